import java.io.IOException;
import java.lang.reflect.Method;
import java.lang.reflect.Modifier;
import java.nio.file.Files;
import java.nio.file.Path;
import java.util.ArrayList;
import java.util.List;
import java.util.Set;
import java.util.TreeSet;
import java.util.regex.Matcher;
import java.util.regex.Pattern;
import java.util.stream.Stream;

/** Holds README.md against the class and the tests; it is run from the project's own directory. */
public final class ToolChoiceReadme {
    private static final Path README = Path.of("README.md");
    private static final Path TESTS = Path.of("src/test/java");
    private static int wrong = 0;

    private static void same(String what, Object got, Object due) {
        if (!got.equals(due)) {
            wrong++;
            System.out.println("README.md: " + what + " is " + got + ", due is " + due);
        }
    }

    /** The example of README.md, line by line the same, and then the answers that its comments tell. */
    private static void example() {
        // The example begins.
        ToolChoice choice = new ToolChoice();
        int small = choice.platform(0b011);               // 0; it has constraints 0 and 1
        int large = choice.platform(0b111);               // 1; it has constraints 0, 1 and 2

        int old = choice.tool(0, 0b001, 0b001, 3);        // 0; kind 0, version 3
        int compiler = choice.tool(0, 0b100, 0b001, 5);   // 1; kind 0, version 5, runs where
                                                          // constraint 2 is, makes for where 0 is
        int linker = choice.tool(1, 0, 0, 1);             // 2; kind 1, version 1, wants nothing
        choice.needs(linker, 0);                          // a tool of kind 0 must build it

        choice.ask(0, 4, true);                           // kind 0, at least version 4, needed
        choice.ask(1, 0, false);                          // kind 1, at least version 0, not needed

        int host = choice.choose(small);                  // 1: large, where all that is needed runs
        int first = choice.chosen(0);                     // 1: compiler
        int second = choice.chosen(1);                    // 2: linker

        int count = choice.rows();                        // 5: two looks on small, three on large
        int tool = choice.row(1, 1);                      // 1: compiler, the second look on small
        int why = choice.row(1, 2);                       // 3: it doesn't fit to run there
        int lacks = choice.row(1, 3);                     // 2: as small lacks constraint 2

        boolean built = choice.built(linker, small);      // true: old makes for small
        int ring = choice.ring(0);                        // -1 (NONE): no tool needs itself
        // The example ends.
        same("the example's small", small, 0);
        same("the example's large", large, 1);
        same("the example's old", old, 0);
        same("the example's compiler", compiler, 1);
        same("the example's linker", linker, 2);
        same("the example's host", host, large);
        same("the example's first", first, compiler);
        same("the example's second", second, linker);
        same("the example's count", count, 5);
        same("the example's tool", tool, compiler);
        same("the example's why", why, 3);
        same("the example's lacks", lacks, 2);
        same("the example's built", built, true);
        same("the example's ring", ring, ToolChoice.NONE);
    }

    private static List<String> between(Path file, String begin, String end) throws IOException {
        List<String> found = new ArrayList<>();
        boolean inside = false;
        for (String line : Files.readAllLines(file)) {
            if (inside && line.strip().equals(end)) {
                return found;
            }
            if (inside) {
                found.add(line.strip());
            }
            inside = inside || line.strip().equals(begin);
        }
        return found;
    }

    private static void exampleIsTheOneTested() throws IOException {
        List<String> told = between(README, "```java", "```");
        Path source = TESTS.resolve("ToolChoiceReadme.java");
        List<String> tested = between(source, "// The example begins.", "// The example ends.");
        same("an example being there", told.isEmpty(), false);
        same("the example", told, tested);
    }

    private static Set<String> all(String text, String pattern) {
        Set<String> found = new TreeSet<>();
        Matcher matcher = Pattern.compile(pattern, Pattern.MULTILINE).matcher(text);
        while (matcher.find()) {
            found.add(matcher.group(1));
        }
        return found;
    }

    /** Each call has a line of the table that begins with its face: type, name, the parameters' names. */
    private static void tellsEachCall(String text) {
        Set<String> calls = new TreeSet<>();
        for (Method each : ToolChoice.class.getDeclaredMethods()) {
            if (Modifier.isPublic(each.getModifiers())) {
                calls.add(each.getReturnType() + " " + each.getName() + " " + each.getParameterCount());
            }
        }
        Set<String> told = new TreeSet<>();
        for (String face : all(text, "^\\| `((?:int|boolean) \\w+\\([^)]*\\))` \\|")) {
            String names = face.substring(face.indexOf('(') + 1, face.length() - 1);
            int count = names.isEmpty() ? 0 : names.split(",").length;
            told.add(face.substring(0, face.indexOf('(')) + " " + count);
        }
        same("the set of calls told", told, calls);
    }

    private static void tellsEachTest(String text) throws IOException {
        Set<String> tests = new TreeSet<>();
        try (Stream<Path> files = Files.list(TESTS)) {
            files.forEach(file -> tests.add(file.getFileName().toString().replace(".java", "")));
        }
        same("the set of tests told", all(text, "^- `(ToolChoice\\w+)`"), tests);
    }

    public static void main(String[] args) throws IOException {
        String text = Files.readString(README);
        example();
        exampleIsTheOneTested();
        tellsEachCall(text);
        tellsEachTest(text);
        System.out.println(wrong == 0 ? "README.md is as due" : wrong + " things of README.md are not as due");
        if (wrong != 0) {
            System.exit(1);
        }
    }
}
