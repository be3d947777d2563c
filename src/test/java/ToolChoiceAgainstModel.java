import java.util.ArrayList;
import java.util.HashSet;
import java.util.LinkedHashMap;
import java.util.List;
import java.util.Map;
import java.util.Random;
import java.util.Set;

/** Compares runs of calls, the same ones every time, with a model that follows the document's words. */
public final class ToolChoiceAgainstModel {
    private static final int NONE = -1;
    private static final int RUNS = 3000;
    // The document leaves free what calls beyond these answer.
    private static final int CALLS = 512;
    // Kept for the end of a run: a choosing, how many rows it has, a cell of each row at the most,
    // and a tool of each kind.
    private static final int LAST_CALLS = 1 + 1 + 144 + 8;
    private static final int MOST_OF_A_STEP = 7;

    private record Tool(int number, int kind, int runs, int makes, int version) {}

    private record Need(int tool, int kind) {}

    private record Asked(int version, boolean needed) {}

    private record Spot(int tool, int platform) {}

    /** Holds all in sets and lists, and works BUILT and RINGS out spot by spot. */
    private static final class Model {
        final List<Integer> platforms = new ArrayList<>();
        final List<Tool> tools = new ArrayList<>();
        final List<Tool> order = new ArrayList<>();
        final Set<Need> needs = new HashSet<>();
        final Map<Integer, Asked> asked = new LinkedHashMap<>();
        final Map<Integer, Integer> forced = new LinkedHashMap<>();
        Map<Integer, Integer> taken = new LinkedHashMap<>();
        List<int[]> told = new ArrayList<>();

        static boolean kind(int kind) {
            return kind >= 0 && kind <= 7;
        }

        boolean isTool(int tool) {
            return tool >= 0 && tool < tools.size();
        }

        boolean isPlatform(int platform) {
            return platform >= 0 && platform < platforms.size();
        }

        int platform(int constraints) {
            if (platforms.size() == 6) {
                return NONE;
            }
            platforms.add(constraints);
            return platforms.size() - 1;
        }

        int tool(int kind, int runs, int makes, int version) {
            if (tools.size() == 24 || !kind(kind)) {
                return NONE;
            }
            Tool made = new Tool(tools.size(), kind, runs, makes, version);
            tools.add(made);
            order.add(made);
            return made.number();
        }

        boolean order(int tool, int place) {
            if (!isTool(tool) || place < 0 || place >= tools.size()) {
                return false;
            }
            order.remove(tools.get(tool));
            order.add(place, tools.get(tool));
            return true;
        }

        boolean needs(int tool, int kind) {
            return isTool(tool) && kind(kind) && needs.size() < 40 && needs.add(new Need(tool, kind));
        }

        boolean ask(int kind, int version, boolean needed) {
            if (kind(kind)) {
                asked.put(kind, new Asked(version, needed));
            }
            return kind(kind);
        }

        boolean drop(int kind) {
            return asked.remove(kind) != null;
        }

        boolean force(int tool, int kind) {
            if (tool == NONE) {
                forced.remove(kind);
                return kind(kind);
            }
            if (isTool(tool)) {
                forced.put(tools.get(tool).kind(), tool);
            }
            return isTool(tool);
        }

        int lack(int wanted, int platform) {
            for (int bit = 0; bit < 32; bit++) {
                int mask = 1 << bit;
                if ((wanted & mask) != 0 && (platforms.get(platform) & mask) == 0) {
                    return bit;
                }
            }
            return NONE;
        }

        boolean fitsToRun(Tool tool, int platform) {
            return lack(tool.runs(), platform) == NONE;
        }

        boolean fitsToMake(Tool tool, int platform) {
            return lack(tool.makes(), platform) == NONE;
        }

        boolean supplied(int kind, int platform, Set<Spot> built) {
            for (Tool tool : tools) {
                for (int q = 0; q < platforms.size(); q++) {
                    if (tool.kind() == kind && fitsToMake(tool, platform)
                            && built.contains(new Spot(tool.number(), q))) {
                        return true;
                    }
                }
            }
            return false;
        }

        int unsupplied(Tool tool, int platform, Set<Spot> built) {
            for (int kind = 0; kind < 8; kind++) {
                if (needs.contains(new Need(tool.number(), kind)) && !supplied(kind, platform, built)) {
                    return kind;
                }
            }
            return NONE;
        }

        Set<Spot> allBuilt() {
            Set<Spot> built = new HashSet<>();
            int before = -1;
            while (before != built.size()) {
                before = built.size();
                for (Tool tool : tools) {
                    for (int p = 0; p < platforms.size(); p++) {
                        if (fitsToRun(tool, p) && unsupplied(tool, p, built) == NONE) {
                            built.add(new Spot(tool.number(), p));
                        }
                    }
                }
            }
            return built;
        }

        boolean built(int tool, int platform) {
            return isTool(tool) && isPlatform(platform) && allBuilt().contains(new Spot(tool, platform));
        }

        List<Spot> steps(Spot from, Set<Spot> built) {
            List<Spot> steps = new ArrayList<>();
            for (Tool next : tools) {
                for (int q = 0; q < platforms.size(); q++) {
                    Spot to = new Spot(next.number(), q);
                    if (needs.contains(new Need(from.tool(), next.kind())) && fitsToMake(next, from.platform())
                            && fitsToRun(next, q) && !built.contains(to)) {
                        steps.add(to);
                    }
                }
            }
            return steps;
        }

        boolean inRing(Spot start, Set<Spot> built) {
            if (!fitsToRun(tools.get(start.tool()), start.platform()) || built.contains(start)) {
                return false;
            }
            Set<Spot> seen = new HashSet<>();
            List<Spot> open = new ArrayList<>(List.of(start));
            while (!open.isEmpty()) {
                for (Spot next : steps(open.remove(open.size() - 1), built)) {
                    if (next.equals(start)) {
                        return true;
                    }
                    if (seen.add(next)) {
                        open.add(next);
                    }
                }
            }
            return false;
        }

        int ring(int i) {
            Set<Spot> built = allBuilt();
            List<Integer> found = new ArrayList<>();
            for (Tool tool : tools) {
                boolean in = false;
                for (int p = 0; p < platforms.size() && !in; p++) {
                    in = inRing(new Spot(tool.number(), p), built);
                }
                if (in) {
                    found.add(tool.number());
                }
            }
            return i >= 0 && i < found.size() ? found.get(i) : NONE;
        }

        int[] look(Tool tool, int host, int target, Set<Spot> built) {
            int force = forced.getOrDefault(tool.kind(), tool.number());
            int why = 0;
            int with = NONE;
            if (force != tool.number()) {
                why = 1;
            } else if (tool.version() < asked.get(tool.kind()).version()) {
                why = 2;
            } else if (!fitsToRun(tool, host)) {
                why = 3;
                with = lack(tool.runs(), host);
            } else if (!fitsToMake(tool, target)) {
                why = 4;
                with = lack(tool.makes(), target);
            } else if (!built.contains(new Spot(tool.number(), host))) {
                why = 5;
                with = unsupplied(tool, host, built);
            }
            return new int[] {host, tool.number(), why, with};
        }

        Map<Integer, Integer> take(int host, int target, Set<Spot> built) {
            Map<Integer, Integer> found = new LinkedHashMap<>();
            for (int kind : asked.keySet()) {
                for (Tool tool : order) {
                    if (tool.kind() == kind && !found.containsKey(kind)) {
                        int[] row = look(tool, host, target, built);
                        told.add(row);
                        if (row[2] == 0) {
                            found.put(kind, tool.number());
                        }
                    }
                }
                if (asked.get(kind).needed() && !found.containsKey(kind)) {
                    return null;
                }
            }
            return found;
        }

        int choose(int platform) {
            if (!isPlatform(platform)) {
                return NONE;
            }
            told = new ArrayList<>();
            Set<Spot> built = allBuilt();
            for (int host = 0; host < platforms.size(); host++) {
                Map<Integer, Integer> found = take(host, platform, built);
                if (found != null) {
                    taken = found;
                    return host;
                }
            }
            taken = new LinkedHashMap<>();
            return NONE;
        }

        int chosen(int kind) {
            return taken.getOrDefault(kind, NONE);
        }

        int row(int i, int what) {
            return i >= 0 && i < told.size() && what >= 0 && what < 4 ? told.get(i)[what] : NONE;
        }
    }

    private static final int[] ODD = {Integer.MIN_VALUE, Integer.MAX_VALUE, -2, -1, 24, 32, 40, 1 << 30};
    private static final int[] SEEN = new int[6];

    /** One run; the seed also says how many constraints are in play, so that fits are neither rare nor sure. */
    private static final class Run {
        final Random random;
        final int seed;
        final int bits;
        final int kinds;
        final ToolChoice real = new ToolChoice();
        final Model model = new Model();
        int calls = 0;

        Run(int seed) {
            this.seed = seed;
            random = new Random(seed);
            bits = 1 + seed % 5;
            kinds = 1 + seed / 5 % 8;
        }

        int below(int bound) {
            return random.nextInt(30) == 0 ? ODD[random.nextInt(ODD.length)] : random.nextInt(bound);
        }

        int wanted() {
            int some = random.nextInt(1 << bits) & random.nextInt(1 << bits);
            return seed % 2 == 0 ? some : Integer.reverse(some);
        }

        int had() {
            int some = random.nextInt(1 << bits) | random.nextInt(1 << bits);
            return seed % 2 == 0 ? some : Integer.reverse(some);
        }

        /** Every call of the class is compared by this one, so this one counts them. */
        boolean same(String what, int got, int want) {
            calls++;
            if (got != want) {
                System.out.println("seed " + seed + ", call " + calls + ": " + what
                        + " answered " + got + ", due is " + want);
            }
            return got == want;
        }

        boolean same(String what, boolean got, boolean want) {
            return same(what, got ? 1 : 0, want ? 1 : 0);
        }

        boolean choose(int platform) {
            return same("choose", real.choose(platform), model.choose(platform))
                    && same("rows", real.rows(), model.told.size());
        }

        /** One row whole, as all rows of each choosing would be too many calls. */
        boolean chooseAndLook(int platform) {
            boolean good = choose(platform);
            int i = random.nextInt(model.told.size() + 1);
            for (int what = 0; what < 4 && good; what++) {
                good = same("row", real.row(i, what), model.row(i, what));
            }
            int kind = random.nextInt(kinds);
            return good && same("chosen", real.chosen(kind), model.chosen(kind));
        }

        boolean last() {
            boolean good = choose(random.nextInt(Math.max(1, model.platforms.size())));
            for (int i = 0; i < model.told.size() && good; i++) {
                int what = random.nextInt(4);
                good = same("row", real.row(i, what), model.row(i, what));
                SEEN[model.row(i, 2)]++;
            }
            for (int kind = 0; kind < 8 && good; kind++) {
                good = same("chosen", real.chosen(kind), model.chosen(kind));
            }
            return good;
        }

        boolean step() {
            int a = below(kinds);
            int tool = below(Math.max(1, Math.min(24, model.tools.size() + 1)));
            int platform = below(Math.max(1, Math.min(6, model.platforms.size() + 1)));
            int version = random.nextInt(4);
            switch (random.nextInt(24)) {
                case 0: {
                    int has = had();
                    return random.nextInt(2) != 0 || same("platform", real.platform(has), model.platform(has));
                }
                case 1, 2: {
                    int runs = wanted();
                    int makes = wanted();
                    return same("tool", real.tool(a, runs, makes, version), model.tool(a, runs, makes, version));
                }
                case 3, 4: {
                    int place = below(24);
                    return same("order", real.order(tool, place), model.order(tool, place));
                }
                case 5, 6:
                    return same("needs", real.needs(tool, a), model.needs(tool, a));
                case 7, 8, 9: {
                    boolean needed = random.nextBoolean();
                    return same("ask", real.ask(a, version, needed), model.ask(a, version, needed));
                }
                case 10:
                    return same("drop", real.drop(a), model.drop(a));
                case 11: {
                    int to = random.nextInt(3) == 0 ? tool : NONE;
                    return same("force", real.force(to, a), model.force(to, a));
                }
                case 12, 13, 14, 15:
                    return chooseAndLook(platform);
                case 16:
                    return same("chosen", real.chosen(a), model.chosen(a));
                case 17: {
                    int i = below(20);
                    int what = below(5);
                    return same("row", real.row(i, what), model.row(i, what));
                }
                case 18, 19:
                    return same("built", real.built(tool, platform), model.built(tool, platform));
                case 20: {
                    int i = below(4);
                    return same("ring", real.ring(i), model.ring(i));
                }
                default:
                    return same("rows", real.rows(), model.told.size());
            }
        }

        boolean go() {
            boolean good = true;
            // Not every step makes a call, so the steps have a bound of their own.
            for (int step = 0; step < CALLS && calls + MOST_OF_A_STEP + LAST_CALLS <= CALLS && good; step++) {
                good = step();
            }
            good = good && last();
            if (calls > CALLS) {
                System.out.println("seed " + seed + ": the test itself made " + calls + " calls");
            }
            return good && calls <= CALLS;
        }
    }

    public static void main(String[] args) {
        int wrong = 0;
        for (int seed = 0; seed < RUNS; seed++) {
            if (!new Run(seed).go()) {
                wrong++;
            }
        }
        for (int why = 0; why < SEEN.length; why++) {
            if (SEEN[why] == 0) {
                wrong++;
                System.out.println("no row had WHY " + why + ": the runs test too little");
            }
        }
        System.out.println(wrong == 0 ? "all runs are as due" : wrong + " runs are not as due");
        if (wrong != 0) {
            System.exit(1);
        }
    }
}
