import java.lang.reflect.Constructor;
import java.lang.reflect.Field;
import java.lang.reflect.Member;
import java.lang.reflect.Method;
import java.lang.reflect.Modifier;
import java.util.Arrays;
import java.util.Set;
import java.util.TreeSet;

/** Holds the class's members against the document's public face: these, and no others to be seen. */
public final class ToolChoiceFace {
    private static final Set<String> METHODS = new TreeSet<>(Arrays.asList(
            "public int platform(int)",
            "public int tool(int, int, int, int)",
            "public boolean order(int, int)",
            "public boolean needs(int, int)",
            "public boolean ask(int, int, boolean)",
            "public boolean drop(int)",
            "public boolean force(int, int)",
            "public int choose(int)",
            "public int chosen(int)",
            "public int rows()",
            "public int row(int, int)",
            "public boolean built(int, int)",
            "public int ring(int)"));
    private static final Set<String> FIELDS = new TreeSet<>(Arrays.asList("public static final int NONE"));
    private static final Set<String> CONSTRUCTORS = new TreeSet<>(Arrays.asList("public ()"));
    private static int wrong = 0;

    private static void same(String what, Object got, Object due) {
        if (!got.equals(due)) {
            wrong++;
            System.out.println("The public face: " + what + " is " + got + ", due is " + due);
        }
    }

    private static boolean isSeen(Member member) {
        return !Modifier.isPrivate(member.getModifiers()) && !member.isSynthetic();
    }

    private static String written(int modifiers, String rest) {
        String words = Modifier.toString(modifiers);
        return words.isEmpty() ? rest : words + " " + rest;
    }

    private static String types(Class<?>[] parameters) {
        StringBuilder text = new StringBuilder("(");
        for (Class<?> each : parameters) {
            text.append(text.length() > 1 ? ", " : "").append(each.getSimpleName());
        }
        return text.append(")").toString();
    }

    private static void theClass() {
        same("the class", written(ToolChoice.class.getModifiers(), "class"), "public final class");
        same("the class above it", ToolChoice.class.getSuperclass(), Object.class);
        same("the number of interfaces", ToolChoice.class.getInterfaces().length, 0);
        same("the package", ToolChoice.class.getPackageName(), "");
    }

    private static void itsMethods() {
        Set<String> seen = new TreeSet<>();
        Set<String> publicNames = new TreeSet<>();
        Set<String> privateNames = new TreeSet<>();
        for (Method each : ToolChoice.class.getDeclaredMethods()) {
            if (isSeen(each)) {
                String rest = each.getReturnType().getSimpleName() + " " + each.getName();
                seen.add(written(each.getModifiers(), rest + types(each.getParameterTypes())));
                publicNames.add(each.getName());
                same("the number of exceptions that " + each.getName() + " names", each.getExceptionTypes().length, 0);
            } else {
                privateNames.add(each.getName());
            }
        }
        same("the set of methods", seen, METHODS);
        privateNames.retainAll(publicNames);
        same("the set of private methods that bear a public one's name", privateNames, new TreeSet<String>());
    }

    private static void itsFields() {
        Set<String> seen = new TreeSet<>();
        for (Field each : ToolChoice.class.getDeclaredFields()) {
            if (isSeen(each)) {
                seen.add(written(each.getModifiers(), each.getType().getSimpleName() + " " + each.getName()));
            }
            if (Modifier.isStatic(each.getModifiers())) {
                same(each.getName() + " being final", Modifier.isFinal(each.getModifiers()), true);
            }
        }
        same("the set of constants", seen, FIELDS);
        same("NONE", ToolChoice.NONE, -1);
    }

    private static void itsConstructors() {
        Set<String> seen = new TreeSet<>();
        for (Constructor<?> each : ToolChoice.class.getDeclaredConstructors()) {
            if (isSeen(each)) {
                seen.add(written(each.getModifiers(), types(each.getParameterTypes())));
            }
        }
        same("the set of constructors", seen, CONSTRUCTORS);
    }

    private static void classesInside() {
        for (Class<?> each : ToolChoice.class.getDeclaredClasses()) {
            int modifiers = each.getModifiers();
            same(each.getName() + " being static", Modifier.isStatic(modifiers), true);
            same(each.getName() + " being public", Modifier.isPublic(modifiers), false);
            same(each.getName() + " being protected", Modifier.isProtected(modifiers), false);
        }
    }

    public static void main(String[] args) {
        theClass();
        itsMethods();
        itsFields();
        itsConstructors();
        classesInside();
        System.out.println(wrong == 0 ? "the face is as due" : wrong + " things of the face are not as due");
        if (wrong != 0) {
            System.exit(1);
        }
    }
}
