import java.util.ArrayList;
import java.util.List;

/**
 * A test of its own for each sentence of the document that names a boundary case: the last input
 * that is taken and the first that is not, an empty object, a full one, and refused calls.
 */
public final class ToolChoiceBoundaries {
    private static final int NONE = -1;
    private static final int MIN = Integer.MIN_VALUE;
    private static final int MAX = Integer.MAX_VALUE;
    private static final int CALLS = 512;
    private static int wrong = 0;
    private static String sentence = "";

    /** Counts the calls, as the document leaves free what calls beyond the 512th answer. */
    private static final class Counted {
        private final ToolChoice choice = new ToolChoice();
        private int calls = 0;

        private ToolChoice next() {
            calls++;
            if (calls > CALLS) {
                complain("the test itself makes more than " + CALLS + " calls");
            }
            return choice;
        }

        int platform(int constraints) {
            return next().platform(constraints);
        }

        int tool(int kind, int runs, int makes, int version) {
            return next().tool(kind, runs, makes, version);
        }

        boolean order(int tool, int place) {
            return next().order(tool, place);
        }

        boolean needs(int tool, int kind) {
            return next().needs(tool, kind);
        }

        boolean ask(int kind, int version, boolean needed) {
            return next().ask(kind, version, needed);
        }

        boolean drop(int kind) {
            return next().drop(kind);
        }

        boolean force(int tool, int kind) {
            return next().force(tool, kind);
        }

        int choose(int platform) {
            return next().choose(platform);
        }

        int chosen(int kind) {
            return next().chosen(kind);
        }

        int rows() {
            return next().rows();
        }

        int row(int i, int what) {
            return next().row(i, what);
        }

        boolean built(int tool, int platform) {
            return next().built(tool, platform);
        }

        int ring(int i) {
            return next().ring(i);
        }
    }

    private static void says(String words) {
        sentence = words;
    }

    private static void complain(String what) {
        wrong++;
        System.out.println("\"" + sentence + "\": " + what);
    }

    private static void same(String what, int got, int want) {
        if (got != want) {
            complain(what + " answered " + got + ", due is " + want);
        }
    }

    private static void yes(String what, boolean got) {
        same(what, got ? 1 : 0, 1);
    }

    private static void no(String what, boolean got) {
        same(what, got ? 1 : 0, 0);
    }

    private static int[] row(int host, int tool, int why, int with) {
        return new int[] {host, tool, why, with};
    }

    /** All rows of the latest choosing, none missing and none too many. */
    private static void sameRows(Counted x, int[]... rows) {
        same("rows()", x.rows(), rows.length);
        for (int i = 0; i < rows.length; i++) {
            for (int what = 0; what < 4; what++) {
                same("row(" + i + ", " + what + ")", x.row(i, what), rows[i][what]);
            }
        }
        same("row(" + rows.length + ", 1)", x.row(rows.length, 1), NONE);
    }

    private static void sameChosen(Counted x, int... toolOfKind) {
        for (int kind = 0; kind < 8; kind++) {
            int due = kind < toolOfKind.length ? toolOfKind[kind] : NONE;
            same("chosen(" + kind + ")", x.chosen(kind), due);
        }
    }

    private static void sameRing(Counted x, int... tools) {
        for (int i = 0; i < tools.length; i++) {
            same("ring(" + i + ")", x.ring(i), tools[i]);
        }
        same("ring(" + tools.length + ")", x.ring(tools.length), NONE);
    }

    /** The tools of kind 0 in their order, told by a choosing in which none has the version. */
    private static void sameOrder(Counted x, int... tools) {
        x.ask(0, MAX, true);
        same("choose(0)", x.choose(0), NONE);
        same("rows()", x.rows(), tools.length);
        for (int i = 0; i < tools.length; i++) {
            same("tool at place " + i, x.row(i, 1), tools[i]);
        }
    }

    private static Counted withPlatforms(int... constraints) {
        Counted x = new Counted();
        for (int each : constraints) {
            x.platform(each);
        }
        return x;
    }

    private static Counted withTools(int count) {
        Counted x = withPlatforms(0);
        for (int i = 0; i < count; i++) {
            x.tool(0, 0, 0, 0);
        }
        return x;
    }

    // What it is

    private static void the512thCall() {
        says("An object is used for at most 512 calls after it has been made");
        int[] due = {2, 2, 1, 1, 1, 1, 1, 1, 0, 2, 3, 1, 1};
        for (int last = 0; last < due.length; last++) {
            Counted x = withPlatforms(1, 3);
            x.tool(0, 2, 1, 5);
            x.tool(1, 0, 0, 5);
            x.needs(1, 1);
            x.ask(0, 5, true);
            while (x.calls < CALLS - 1) {
                x.choose(1);
            }
            same("call 512 of sort " + last, anyCall(x, last), due[last]);
            same("calls", x.calls, CALLS);
        }
    }

    private static int anyCall(Counted x, int sort) {
        switch (sort) {
            case 0:
                return x.platform(0);
            case 1:
                return x.tool(0, 0, 0, 0);
            case 2:
                return x.order(1, 0) ? 1 : 0;
            case 3:
                return x.needs(0, 1) ? 1 : 0;
            case 4:
                return x.ask(1, 0, false) ? 1 : 0;
            case 5:
                return x.drop(0) ? 1 : 0;
            case 6:
                return x.force(1, 0) ? 1 : 0;
            case 7:
                return x.choose(0);
            case 8:
                return x.chosen(0);
            case 9:
                return x.rows();
            case 10:
                return x.row(0, 2);
            case 11:
                return x.built(0, 1) ? 1 : 0;
            default:
                return x.ring(0);
        }
    }

    // Terms

    private static void platformsAreAtMostSix() {
        says("PLATFORMS, at most 6, numbered from 0");
        Counted x = new Counted();
        for (int i = 0; i < 6; i++) {
            same("platform " + i, x.platform(1 << i), i);
        }
        same("platform 6", x.platform(1 << 6), NONE);
        x.tool(0, 1 << 5, 1 << 5, 0);
        x.ask(0, 0, true);
        same("the last one, for itself", x.choose(5), 5);
        same("the first one has not its constraints", x.choose(0), NONE);
        yes("built on the last", x.built(0, 5));
        no("built on the first", x.built(0, 0));
        no("built on one that isn't", x.built(0, 6));
    }

    private static void constraintsAreBits0To31() {
        says("have CONSTRAINTS: bits 0 .. 31");
        for (int bit = 0; bit < 32; bit++) {
            int only = 1 << bit;
            Counted x = withPlatforms(~only, only);
            x.tool(0, only, 0, 0);
            x.tool(0, 0, only, 0);
            x.ask(0, 0, true);
            same("choose(0), bit " + bit, x.choose(0), 1);
            sameRows(x, row(0, 0, 3, bit), row(0, 1, 4, bit), row(1, 0, 0, NONE));
            same("choose(1), bit " + bit, x.choose(1), 0);
            sameRows(x, row(0, 0, 3, bit), row(0, 1, 0, NONE));
        }
    }

    private static void fitsWhenItHasAll() {
        says("A tool FITS to run on a platform if this has all that it wants of it; to make for one "
                + "likewise");
        Counted none = withPlatforms(0);
        none.tool(0, 0, 0, 0);
        none.ask(0, 0, true);
        same("who wants nothing fits where there is nothing", none.choose(0), 0);
        Counted all = withPlatforms(-1, MAX, -2);
        all.tool(0, -1, -1, 0);
        all.ask(0, 0, true);
        same("who wants all fits where there is all", all.choose(0), 0);
        yes("built where there is all", all.built(0, 0));
        no("built where bit 31 lacks", all.built(0, 1));
        no("built where bit 0 lacks", all.built(0, 2));
        same("choose(1)", all.choose(1), NONE);
        sameRows(all, row(0, 0, 4, 31), row(1, 0, 3, 31), row(2, 0, 3, 0));
        same("choose(2)", all.choose(2), NONE);
        sameRows(all, row(0, 0, 4, 0), row(1, 0, 3, 31), row(2, 0, 3, 0));
    }

    private static void toolsAreAtMost24() {
        says("TOOLS, at most 24, numbered from 0");
        Counted x = withPlatforms(0);
        for (int i = 0; i < 24; i++) {
            same("tool " + i, x.tool(0, 0, 0, i), i);
        }
        same("tool 24", x.tool(0, 0, 0, 24), NONE);
        x.ask(0, 23, true);
        same("the last one has the version", x.choose(0), 0);
        same("chosen(0)", x.chosen(0), 23);
        x.ask(0, 24, true);
        same("there is none of version 24", x.choose(0), NONE);
        same("rows()", x.rows(), 24);
        yes("built(23, 0)", x.built(23, 0));
        no("built(24, 0)", x.built(24, 0));
        yes("needs(23, 0)", x.needs(23, 0));
        no("needs(24, 0)", x.needs(24, 0));
        yes("force(23, 0)", x.force(23, 0));
        no("force(24, 0)", x.force(24, 0));
        yes("order(23, 23)", x.order(23, 23));
        no("order(24, 23)", x.order(24, 23));
    }

    private static void kindsAre0To7() {
        says("are of a KIND 0 .. 7");
        for (int kind : new int[] {0, 7}) {
            Counted x = withPlatforms(0);
            same("tool of kind " + kind, x.tool(kind, 0, 0, 0), 0);
            yes("ask", x.ask(kind, 0, true));
            same("choose(0)", x.choose(0), 0);
            same("chosen", x.chosen(kind), 0);
            yes("force to none", x.force(NONE, kind));
            yes("needs", x.needs(0, kind));
            yes("drop", x.drop(kind));
        }
        for (int kind : new int[] {-1, 8, MIN, MAX, 32, 39, -8, 1 << 31 | 1}) {
            Counted x = withPlatforms(0);
            same("tool of kind " + kind, x.tool(kind, 0, 0, 0), NONE);
            x.tool(0, 0, 0, 0);
            no("ask", x.ask(kind, 0, true));
            same("choose(0)", x.choose(0), 0);
            same("chosen", x.chosen(kind), NONE);
            no("force to none", x.force(NONE, kind));
            no("needs", x.needs(0, kind));
            no("drop", x.drop(kind));
        }
    }

    private static void orderIsAtFirstAsTheyCame() {
        says("TOOLS are in an ORDER: at first as they came");
        sameOrder(withTools(1), 0);
        sameOrder(withTools(24), 0, 1, 2, 3, 4, 5, 6, 7, 8, 9, 10, 11, 12, 13, 14, 15, 16, 17, 18, 19, 20, 21, 22, 23);
    }

    private static void needsAreAtMost40() {
        says("NEEDS, at most 40 rows");
        Counted x = withPlatforms(0);
        for (int i = 0; i < 7; i++) {
            x.tool(0, 0, 0, 0);
        }
        for (int i = 0; i < 40; i++) {
            if (i == 39) {
                no("a refused row takes no room: tool", x.needs(7, 1));
                no("a refused row takes no room: kind", x.needs(0, 8));
                no("a refused row takes no room: there", x.needs(0, 7));
                yes("tool 6 before", x.built(6, 0));
            }
            yes("row " + i, x.needs(i < 39 ? i / 8 : 6, i < 39 ? i % 8 : 1));
        }
        no("the last row counts", x.built(6, 0));
        no("a row too many", x.needs(5, 1));
        yes("and it does not count", x.built(5, 0));
        no("one that is there", x.needs(6, 1));
    }

    private static void oneOfTheSameKindIsNeeded() {
        says("to build a tool, one of another (or the same) KIND is needed, that makes for the "
                + "platform on which the tool runs");
        Counted same = withPlatforms(1, 2);
        same.tool(0, 0, 0, 0);
        yes("needs(0, 0)", same.needs(0, 0));
        no("by itself alone", same.built(0, 0));
        same.tool(0, 2, 1, 0);
        yes("by another of the same kind, that makes for 0", same.built(0, 0));
        yes("by itself, which is built on 0", same.built(0, 1));
        Counted other = withPlatforms(1, 2);
        other.tool(0, 0, 0, 0);
        yes("needs(0, 7)", other.needs(0, 7));
        other.tool(7, 2, 1, 0);
        yes("another kind makes for 0", other.built(0, 0));
        no("it makes not for 1, though it runs there", other.built(0, 1));
    }

    private static void builtIfItFitsAndAllIsThere() {
        says("A tool is BUILT for running on a platform if it FITS to run there, and for each KIND "
                + "that it NEEDS some tool of that KIND FITS to make for this platform and is BUILT for "
                + "running on some platform");
        Counted x = withPlatforms(1, 2);
        x.tool(0, 1, -1, 0);
        yes("it needs nothing and fits", x.built(0, 0));
        no("it needs nothing and doesn't fit", x.built(0, 1));
        for (int kind = 1; kind < 8; kind++) {
            x.needs(0, kind);
        }
        for (int kind = 7; kind > 0; kind--) {
            no("a kind lacks still, " + kind, x.built(0, 0));
            x.tool(kind, 2, 1, 0);
        }
        yes("each kind is there", x.built(0, 0));
        no("still it doesn't fit on 1", x.built(0, 1));

        Counted apart = withPlatforms(1, 2);
        apart.tool(0, 1, 0, 0);
        apart.needs(0, 1);
        apart.tool(1, 4, 1, 0);
        apart.tool(1, 1, 2, 0);
        no("one makes but runs nowhere, one runs but doesn't make", apart.built(0, 0));
        apart.tool(1, 2, 1, 0);
        yes("one makes, and runs somewhere", apart.built(0, 0));
    }

    /**
     * Tool i runs on one platform alone and makes for that of tool i - 1 alone, so that nothing
     * but tool i + 1 serves tool i: the longest way that 24 tools have.
     */
    private static Counted longestWay() {
        Counted x = new Counted();
        for (int i = 0; i < 6; i++) {
            x.platform(1 << i);
        }
        for (int i = 0; i < 24; i++) {
            x.tool(i % 8, 1 << i / 4, 1 << (i + 23) % 24 / 4, 0);
        }
        for (int i = 0; i < 23; i++) {
            yes("needs", x.needs(i, (i + 1) % 8));
        }
        return x;
    }

    private static void justTheLeastAreBuilt() {
        says("just the least such ones are (a tool that in the end needs itself isn't, by that way)");
        Counted x = longestWay();
        for (int i = 0; i < 24; i++) {
            yes("on the longest way, tool " + i, x.built(i, i / 4));
            no("elsewhere, tool " + i, x.built(i, (i / 4 + 1) % 6));
        }
        x.needs(23, 0);
        for (int i = 0; i < 24; i++) {
            no("round the longest way, tool " + i, x.built(i, i / 4));
        }
        Counted other = withPlatforms(0);
        other.tool(0, 0, 0, 0);
        other.tool(1, 0, 0, 0);
        other.needs(0, 1);
        other.needs(1, 0);
        no("in the end it needs itself", other.built(0, 0));
        other.tool(1, 0, 0, 0);
        yes("by another way it doesn't", other.built(0, 0));
        yes("nor does the other then", other.built(1, 0));
    }

    private static void askedAtMostOnce() {
        says("ASKED are KINDS, at most once each, in the order in which they were asked first");
        Counted x = withPlatforms(0);
        for (int kind = 0; kind < 8; kind++) {
            x.tool(kind, 0, 0, 0);
        }
        for (int kind = 7; kind >= 0; kind--) {
            x.ask(kind, 0, true);
        }
        for (int kind = 0; kind < 8; kind++) {
            x.ask(kind, 0, true);
        }
        same("choose(0)", x.choose(0), 0);
        sameRows(x, row(0, 7, 0, NONE), row(0, 6, 0, NONE), row(0, 5, 0, NONE), row(0, 4, 0, NONE),
                row(0, 3, 0, NONE), row(0, 2, 0, NONE), row(0, 1, 0, NONE), row(0, 0, 0, NONE));
        yes("asked twice, dropped once", x.drop(7));
        no("isn't asked any more", x.drop(7));
        x.ask(7, 0, true);
        same("choose(0)", x.choose(0), 0);
        same("eight again", x.rows(), 8);
        same("asked first only after the drop", x.row(7, 1), 7);
    }

    private static void leastVersion() {
        says("with a least version");
        int[][] enough = {{5, 5}, {0, 0}, {-1, -1}, {MIN, MIN}, {MAX, MAX}, {MAX, MIN}, {0, -1}, {1, MIN}};
        for (int[] each : enough) {
            Counted x = withPlatforms(0);
            x.tool(0, 0, 0, each[0]);
            x.ask(0, each[1], true);
            same("version " + each[0] + " for " + each[1], x.choose(0), 0);
            sameRows(x, row(0, 0, 0, NONE));
        }
        int[][] lower = {{4, 5}, {-1, 0}, {MIN, MAX}, {MAX - 1, MAX}, {MIN, MIN + 1}, {MIN, 1}, {-2, MAX}};
        for (int[] each : lower) {
            Counted x = withPlatforms(0);
            x.tool(0, 0, 0, each[0]);
            x.ask(0, each[1], true);
            same("version " + each[0] + " for " + each[1], x.choose(0), NONE);
            sameRows(x, row(0, 0, 2, NONE));
        }
    }

    private static void allPlatformsAreGoneThrough() {
        says("the others (and itself) are gone through by numbers as the one to run on");
        Counted x = withPlatforms(1, 2, 4, 8, 16, 32);
        x.ask(0, 0, true);
        for (int host = 5; host >= 0; host--) {
            int tool = x.tool(0, 1 << host, 0, 0);
            x.force(tool, 0);
            for (int target = 0; target < 6; target++) {
                same("run on " + host + " for " + target, x.choose(target), host);
            }
            same("the tool for it", x.chosen(0), tool);
            same("rows on the platforms before and on it", x.rows(), host * (tool + 1) + tool + 1);
            same("the first row's platform", x.row(0, 0), 0);
            same("the last row's platform", x.row(x.rows() - 1, 0), host);
        }
    }

    private static void theFirstGoodIsTaken() {
        says("of each the TOOLS of that KIND in their ORDER, the first one that is GOOD being taken");
        Counted x = withPlatforms(0);
        for (int i = 0; i < 24; i++) {
            x.tool(0, 0, 0, i);
        }
        x.ask(0, 23, true);
        x.choose(0);
        same("the last one alone is good", x.chosen(0), 23);
        same("all are looked at", x.rows(), 24);
        x.ask(0, 0, true);
        x.choose(0);
        same("all are good", x.chosen(0), 0);
        same("the first is looked at alone", x.rows(), 1);
        x.order(23, 0);
        x.choose(0);
        same("another is first", x.chosen(0), 23);
        same("it is looked at alone", x.rows(), 1);
    }

    private static void aNeededKindHasNone() {
        says("If a KIND that is NEEDED has none, the next platform is gone through");
        Counted x = withPlatforms(0, 0, 1);
        x.tool(0, 0, 0, 0);
        x.tool(1, 1, 0, 0);
        x.tool(2, 0, 0, 0);
        x.ask(0, 0, true);
        x.ask(1, 0, true);
        x.ask(2, 0, true);
        same("choose(0)", x.choose(0), 2);
        sameRows(x, row(0, 0, 0, NONE), row(0, 1, 3, 0), row(1, 0, 0, NONE), row(1, 1, 3, 0),
                row(2, 0, 0, NONE), row(2, 1, 0, NONE), row(2, 2, 0, NONE));
        sameChosen(x, 0, 1, 2);
        Counted empty = withPlatforms(0, 0);
        empty.ask(7, 0, true);
        same("a kind without tools", empty.choose(1), NONE);
        sameRows(empty);
    }

    private static void aKindNotNeededHasNone() {
        says("one that isn't has none then");
        Counted x = withPlatforms(0, 1);
        x.tool(0, 0, 0, 0);
        x.tool(1, 1, 0, 0);
        x.tool(2, 0, 0, 0);
        x.ask(0, 0, true);
        x.ask(1, 0, false);
        x.ask(2, 0, true);
        same("choose(0)", x.choose(0), 0);
        sameRows(x, row(0, 0, 0, NONE), row(0, 1, 3, 0), row(0, 2, 0, NONE));
        sameChosen(x, 0, NONE, 2);
        Counted empty = withPlatforms(0, 0);
        for (int kind = 0; kind < 8; kind++) {
            empty.ask(kind, MAX, false);
        }
        same("eight kinds without tools", empty.choose(1), 0);
        sameRows(empty);
        sameChosen(empty);
    }

    private static void theFirstPlatformIsChosen() {
        says("The first platform on which no KIND that is NEEDED lacks one is chosen");
        Counted x = withPlatforms(0, 1, 1);
        same("nothing is asked", x.choose(2), 0);
        x.tool(0, 1, 0, 0);
        x.ask(0, 0, true);
        same("two would do", x.choose(2), 1);
        x.ask(0, 0, false);
        same("all would do", x.choose(2), 0);
        sameChosen(x);
    }

    private static void theConstant() {
        says("The constants: NONE = -1");
        same("NONE", ToolChoice.NONE, -1);
    }

    // A tool is told by a ROW

    private static void aRowForEachLook() {
        says("A tool is told by a ROW for each time it was looked at, with a WHY: 0 it is GOOD");
        Counted x = withPlatforms(0, 0, 0, 0, 0, 1);
        x.tool(0, 0, 0, 0);
        x.tool(1, 1, 0, 0);
        x.ask(0, 0, true);
        x.ask(1, 0, true);
        same("choose(0)", x.choose(0), 5);
        same("twice on each platform", x.rows(), 12);
        for (int host = 0; host < 6; host++) {
            same("good", x.row(2 * host, 2), 0);
            same("with nothing", x.row(2 * host, 3), NONE);
            same("its platform", x.row(2 * host, 0), host);
            same("its tool", x.row(2 * host, 1), 0);
        }
    }

    private static void forcedToAnother() {
        says("1 the KIND is FORCED to another one");
        Counted x = withPlatforms(0);
        x.tool(0, 0, 0, 0);
        x.tool(0, 0, 0, 0);
        x.tool(1, 0, 0, 0);
        x.ask(0, 0, true);
        x.ask(1, 0, true);
        x.force(1, 0);
        x.choose(0);
        sameRows(x, row(0, 0, 1, NONE), row(0, 1, 0, NONE), row(0, 2, 0, NONE));
        x.force(0, 0);
        x.choose(0);
        sameRows(x, row(0, 0, 0, NONE), row(0, 2, 0, NONE));
    }

    private static void lowestConstraintOfRun() {
        says("3 it doesn't FIT to run there (with the lowest CONSTRAINT that the platform lacks)");
        for (int bit = 0; bit < 32; bit++) {
            int below = (1 << bit) - 1;
            Counted x = withPlatforms(below);
            x.tool(0, -1, 0, 0);
            x.ask(0, 0, true);
            x.choose(0);
            sameRows(x, row(0, 0, 3, bit));
        }
        Counted all = withPlatforms(-1);
        all.tool(0, -1, 0, 0);
        all.ask(0, 0, true);
        all.choose(0);
        sameRows(all, row(0, 0, 0, NONE));
    }

    private static void lowestConstraintOfMake() {
        says("4 it doesn't FIT to make for the platform that is chosen for (likewise)");
        for (int bit = 0; bit < 32; bit++) {
            int below = (1 << bit) - 1;
            Counted x = withPlatforms(-1, below);
            x.tool(0, 0, -1, 0);
            x.ask(0, 0, true);
            same("choose(1)", x.choose(1), NONE);
            sameRows(x, row(0, 0, 4, bit), row(1, 0, 4, bit));
            same("choose(0)", x.choose(0), 0);
            sameRows(x, row(0, 0, 0, NONE));
        }
    }

    private static void lowestKindNotBuilt() {
        says("5 it isn't BUILT for running there (with the lowest KIND that it NEEDS of which no tool "
                + "FITS to make for this platform and is BUILT for running somewhere)");
        for (int lowest = 1; lowest < 8; lowest++) {
            Counted x = withPlatforms(1, 2);
            x.tool(0, 1, 0, 0);
            for (int kind = 7; kind > 0; kind--) {
                x.needs(0, kind);
                x.tool(kind, kind < lowest ? 2 : 4, 1, 0);
            }
            x.ask(0, 0, true);
            same("choose(1)", x.choose(1), NONE);
            sameRows(x, row(0, 0, 5, lowest), row(1, 0, 3, 0));
        }
        Counted self = withPlatforms(0);
        self.tool(0, 0, 0, 0);
        self.needs(0, 7);
        self.needs(0, 0);
        self.ask(0, 0, true);
        self.choose(0);
        sameRows(self, row(0, 0, 5, 0));

        // This platform is the one to run on: what makes only for the one chosen for is no help.
        Counted here = withPlatforms(1, 2);
        here.tool(0, 1, 0, 0);
        here.needs(0, 3);
        here.tool(3, 0, 2, 0);
        here.ask(0, 0, true);
        same("made for the other", here.choose(1), NONE);
        sameRows(here, row(0, 0, 5, 3), row(1, 0, 3, 0));
        here.tool(3, 2, 1, 0);
        same("made for this one", here.choose(1), 0);
    }

    private static void theLeastWhyCounts() {
        says("The least WHY counts");
        int[] with = {NONE, NONE, NONE, 1, 2, 6};
        for (int reasons = 0; reasons < 32; reasons++) {
            Counted x = withPlatforms(1);
            x.tool(0, hasReason(reasons, 3) ? 2 : 1, hasReason(reasons, 4) ? 4 : 1, hasReason(reasons, 2) ? 0 : 1);
            x.tool(0, 0, 0, 1);
            x.ask(0, 1, true);
            x.force(hasReason(reasons, 1) ? 1 : 0, 0);
            if (hasReason(reasons, 5)) {
                x.needs(0, 6);
            }
            int least = reasons == 0 ? 0 : Integer.numberOfTrailingZeros(reasons) + 1;
            x.choose(0);
            same("WHY for reasons " + Integer.toBinaryString(reasons), x.row(0, 2), least);
            same("what is with it", x.row(0, 3), with[least]);
        }
    }

    private static boolean hasReason(int reasons, int why) {
        return (reasons >> why - 1 & 1) != 0;
    }

    // RINGS

    private static void aToolLeadsToEach() {
        says("a tool on a platform that it FITS to run on leads to each tool, on each platform that "
                + "that FITS to run on, of a KIND that the first one NEEDS, that FITS to make for the "
                + "first one's platform");
        sameRing(ringOfTwo(1, 2, 2, 1), 0, 1);
        sameRing(ringOfTwo(4, 2, 2, 1));
        sameRing(ringOfTwo(1, 2, 4, 1));
        sameRing(ringOfTwo(1, 1, 2, 1));
        sameRing(ringOfTwo(1, 2, 2, 2));
        Counted kinds = withPlatforms(0);
        kinds.tool(0, 0, 0, 0);
        kinds.tool(1, 0, 0, 0);
        kinds.needs(0, 1);
        kinds.needs(1, 2);
        sameRing(kinds);
        kinds.needs(1, 0);
        sameRing(kinds, 0, 1);
    }

    /** Tools of kinds 0 and 1 that need each other, and for two platforms what they want of these. */
    private static Counted ringOfTwo(int runs0, int makes0, int runs1, int makes1) {
        Counted x = withPlatforms(1, 2);
        x.tool(0, runs0, makes0, 0);
        x.tool(1, runs1, makes1, 0);
        x.needs(0, 1);
        x.needs(1, 0);
        return x;
    }

    private static void byOneStepOrMore() {
        says("A tool is in a RING if on some platform it leads, by one step or more, to itself there");
        Counted one = withPlatforms(0);
        one.tool(0, 0, 0, 0);
        sameRing(one);
        one.needs(0, 0);
        sameRing(one, 0);
        Counted most = longestWay();
        sameRing(most);
        most.needs(23, 0);
        sameRing(most, 0, 1, 2, 3, 4, 5, 6, 7, 8, 9, 10, 11, 12, 13, 14, 15, 16, 17, 18, 19, 20, 21, 22, 23);
        Counted last = withPlatforms(1, 2, 4, 8, 16, 32);
        last.tool(0, 32, 32, 0);
        last.needs(0, 0);
        sameRing(last, 0);
        Counted into = withPlatforms(0);
        into.tool(0, 0, 0, 0);
        into.tool(1, 0, 0, 0);
        into.tool(2, 0, 0, 0);
        into.needs(0, 1);
        into.needs(1, 1);
        into.needs(1, 2);
        into.needs(2, 7);
        sameRing(into, 1);
    }

    private static void allOnTheWayAreNotBuilt() {
        says("all tools on the way not being BUILT for running where they are");
        Counted way = withPlatforms(0);
        way.tool(0, 0, 0, 0);
        way.tool(1, 0, 0, 0);
        way.needs(0, 1);
        way.needs(1, 0);
        way.needs(1, 7);
        sameRing(way, 0, 1);
        way.tool(1, 0, 0, 0);
        yes("tool 0 is built now", way.built(0, 0));
        no("tool 1 isn't", way.built(1, 0));
        sameRing(way);

        // Tool 0 is built on platform 0, yet on platform 1, for lack of kind 2, it isn't.
        Counted where = withPlatforms(1, 2);
        where.tool(0, 0, 2, 0);
        where.tool(0, 0, 1, 0);
        where.tool(2, 0, 1, 0);
        where.needs(0, 0);
        where.needs(0, 2);
        yes("built on 0", where.built(0, 0));
        no("not built on 1", where.built(0, 1));
        sameRing(where, 0);
        where.tool(2, 0, 2, 0);
        yes("built on 1", where.built(0, 1));
        sameRing(where);
    }

    // Promise 1

    private static void noPlatforms() {
        says("Promise 1: No platforms");
        Counted x = new Counted();
        for (int platform : new int[] {0, 5, -1, 6, MIN, MAX}) {
            same("choose(" + platform + ")", x.choose(platform), NONE);
        }
        sameRows(x);
        sameChosen(x);
        x.tool(0, 0, 0, 0);
        x.needs(0, 0);
        no("built(0, 0)", x.built(0, 0));
        sameRing(x);
        same("the first one's number", x.platform(0), 0);
    }

    private static void noTools() {
        says("Promise 1: no tools");
        Counted x = withPlatforms(0);
        no("order(0, 0)", x.order(0, 0));
        no("order(-1, -1)", x.order(-1, -1));
        no("needs(0, 0)", x.needs(0, 0));
        no("force(0, 0)", x.force(0, 0));
        yes("force(NONE, 0)", x.force(NONE, 0));
        no("built(0, 0)", x.built(0, 0));
        sameRing(x);
        x.ask(0, MIN, true);
        same("choose(0)", x.choose(0), NONE);
        sameRows(x);
        same("the first one's number", x.tool(0, 0, 0, 0), 0);
    }

    private static void nothingAsked() {
        says("Promise 1: nothing asked");
        Counted x = withTools(1);
        for (int kind = -1; kind <= 8; kind++) {
            no("drop(" + kind + ")", x.drop(kind));
        }
        same("choose(0)", x.choose(0), 0);
        sameRows(x);
        sameChosen(x);
    }

    // Promises 2 to 8

    private static void noneIfThereAreSix() {
        says("Promise 2: A new platform: its number; NONE if there are 6");
        Counted x = withPlatforms(0, 0, 0, 0, 0);
        same("the sixth", x.platform(7), 5);
        same("the seventh", x.platform(-1), NONE);
        same("again", x.platform(0), NONE);
        x.tool(0, 7, 0, 0);
        yes("the sixth keeps its constraints", x.built(0, 5));
        x.tool(0, 8, 0, 0);
        no("the seventh changed none", x.built(1, 5));
    }

    private static void theLastOneInTheOrder() {
        says("Promise 3: A new tool, the last one in the ORDER");
        Counted x = withTools(1);
        x.tool(0, 0, 0, 0);
        sameOrder(x, 0, 1);
        x.order(1, 0);
        x.tool(0, 0, 0, 0);
        sameOrder(x, 1, 0, 2);
        x.order(0, 2);
        x.tool(0, 0, 0, 0);
        sameOrder(x, 1, 2, 0, 3);
    }

    private static void noneIfThereAre24() {
        says("Promise 3: NONE if there are 24, or there is no such KIND");
        Counted x = withTools(23);
        same("kind -1", x.tool(-1, 0, 0, 0), NONE);
        same("kind 8", x.tool(8, 0, 0, 0), NONE);
        same("the 24th", x.tool(7, 0, 0, 0), 23);
        same("the 25th", x.tool(7, 0, 0, 0), NONE);
        same("the 25th, kind 8", x.tool(8, 0, 0, 0), NONE);
        x.ask(7, 0, true);
        x.choose(0);
        sameRows(x, row(0, 23, 0, NONE));
        x.force(23, 7);
        x.ask(7, 1, true);
        x.choose(0);
        sameRows(x, row(0, 23, 2, NONE));
    }

    private static void placesOfTheOrder() {
        says("Promise 4: A tool comes to a place of the ORDER (0 .. one less than there are), the "
                + "others keeping theirs");
        Counted one = withTools(1);
        yes("order(0, 0)", one.order(0, 0));
        no("order(0, 1)", one.order(0, 1));
        no("order(0, -1)", one.order(0, -1));
        sameOrder(one, 0);
        Counted x = withTools(4);
        yes("the last to the first place", x.order(3, 0));
        sameOrder(x, 3, 0, 1, 2);
        yes("the first to the last place", x.order(3, 3));
        sameOrder(x, 0, 1, 2, 3);
        yes("one back", x.order(1, 2));
        sameOrder(x, 0, 2, 1, 3);
        yes("one forth", x.order(1, 1));
        sameOrder(x, 0, 1, 2, 3);
        yes("to where it is, first", x.order(0, 0));
        yes("to where it is, last", x.order(3, 3));
        sameOrder(x, 0, 1, 2, 3);
        Counted full = withTools(24);
        yes("order(0, 23)", full.order(0, 23));
        sameOrder(full, 1, 2, 3, 4, 5, 6, 7, 8, 9, 10, 11, 12, 13, 14, 15, 16, 17, 18, 19, 20, 21, 22, 23, 0);
        yes("order(23, 0)", full.order(23, 0));
        sameOrder(full, 23, 1, 2, 3, 4, 5, 6, 7, 8, 9, 10, 11, 12, 13, 14, 15, 16, 17, 18, 19, 20, 21, 22, 0);
    }

    private static void noSuchPlaceOrTool() {
        says("Promise 4: false if there is none such");
        Counted x = withTools(3);
        x.order(0, 1);
        for (int place : new int[] {-1, 3, 4, 23, 24, MIN, MAX}) {
            no("order(0, " + place + ")", x.order(0, place));
        }
        for (int tool : new int[] {-1, 3, 4, 23, 24, MIN, MAX}) {
            no("order(" + tool + ", 0)", x.order(tool, 0));
            no("order(" + tool + ", " + tool + ")", x.order(tool, tool));
        }
        sameOrder(x, 1, 0, 2);
        x.tool(0, 0, 0, 0);
        yes("the place is there now", x.order(0, 3));
        yes("the tool is there now", x.order(3, 0));
        sameOrder(x, 3, 1, 2, 0);
        Counted full = withTools(24);
        no("order(0, 24)", full.order(0, 24));
        no("order(24, 0)", full.order(24, 0));
    }

    private static void noSuchNeed() {
        says("Promise 5: false if there is no such tool or KIND, it is there, or there are 40");
        Counted x = withTools(6);
        for (int tool : new int[] {-1, 6, 24, MIN, MAX}) {
            no("needs(" + tool + ", 0)", x.needs(tool, 0));
        }
        for (int kind : new int[] {-1, 8, 31, 32, MIN, MAX}) {
            no("needs(0, " + kind + ")", x.needs(0, kind));
        }
        yes("nothing came of it", x.built(0, 0));
        for (int i = 0; i < 40; i++) {
            yes("needs", x.needs(i / 8, i % 8));
            no("it is there", x.needs(i / 8, i % 8));
        }
        for (int kind = 0; kind < 8; kind++) {
            no("there are 40", x.needs(5, kind));
        }
        yes("nothing came of it", x.built(5, 0));
    }

    private static void askedAnew() {
        says("Promise 6: A KIND is ASKED (anew: what was asked before is replaced, its place stays)");
        Counted x = withPlatforms(0);
        x.tool(0, 0, 0, 5);
        x.tool(1, 0, 0, 5);
        x.tool(2, 0, 0, 5);
        x.ask(2, 9, false);
        x.ask(1, 5, true);
        x.ask(0, 6, false);
        same("choose(0)", x.choose(0), 0);
        sameRows(x, row(0, 2, 2, NONE), row(0, 1, 0, NONE), row(0, 0, 2, NONE));
        yes("the first one, a lower version", x.ask(2, 5, true));
        yes("the middle one, not needed", x.ask(1, 6, false));
        yes("the last one, a lower version", x.ask(0, 5, true));
        same("choose(0)", x.choose(0), 0);
        sameRows(x, row(0, 2, 0, NONE), row(0, 1, 2, NONE), row(0, 0, 0, NONE));
        yes("the middle one, needed", x.ask(1, 6, true));
        same("choose(0)", x.choose(0), NONE);
        sameRows(x, row(0, 2, 0, NONE), row(0, 1, 2, NONE));
    }

    private static void noSuchKindToAsk() {
        says("Promise 6: false if there is none such");
        Counted x = withTools(1);
        for (int kind : new int[] {-1, 8, 9, MIN, MAX}) {
            no("ask(" + kind + ")", x.ask(kind, 0, true));
            same("choose(0)", x.choose(0), 0);
        }
        yes("ask(0)", x.ask(0, 0, true));
        yes("ask(7)", x.ask(7, 0, true));
        same("kind 7 has no tool", x.choose(0), NONE);
    }

    private static void droppedKinds() {
        says("Promise 7: A KIND isn't ASKED any more; false if there is none such, or it isn't");
        Counted x = withPlatforms(0);
        for (int kind = 0; kind < 8; kind++) {
            x.tool(kind, 0, 0, 0);
            no("drop before", x.drop(kind));
            x.ask(kind, 0, true);
        }
        for (int kind : new int[] {-1, 8, MIN, MAX}) {
            no("drop(" + kind + ")", x.drop(kind));
        }
        same("choose(0)", x.choose(0), 0);
        same("all eight are asked", x.rows(), 8);
        yes("the first of eight", x.drop(0));
        yes("the last of eight", x.drop(7));
        yes("a middle one", x.drop(3));
        no("again", x.drop(3));
        same("choose(0)", x.choose(0), 0);
        sameRows(x, row(0, 1, 0, NONE), row(0, 2, 0, NONE), row(0, 4, 0, NONE), row(0, 5, 0, NONE), row(0, 6, 0, NONE));
        sameChosen(x, NONE, 1, 2, NONE, 4, 5, 6, NONE);
        for (int kind : new int[] {1, 2, 4, 5, 6}) {
            yes("drop(" + kind + ")", x.drop(kind));
        }
        same("nothing is asked", x.choose(0), 0);
        sameRows(x);
        x.ask(3, 0, true);
        x.ask(0, 0, true);
        x.choose(0);
        sameRows(x, row(0, 3, 0, NONE), row(0, 0, 0, NONE));
    }

    private static void forcedToATool() {
        says("Promise 8: The KIND of a tool is FORCED to it; (NONE, and a KIND) to none");
        Counted x = withPlatforms(0);
        for (int i = 0; i < 24; i++) {
            x.tool(i % 8, 0, 0, 0);
        }
        for (int kind = 0; kind < 8; kind++) {
            x.ask(kind, 0, true);
        }
        yes("the first tool", x.force(0, 0));
        yes("the last tool", x.force(23, 7));
        yes("the kind given counts not", x.force(9, 0));
        x.choose(0);
        sameChosen(x, 0, 9, 2, 3, 4, 5, 6, 23);
        yes("another of kind 1", x.force(17, 1));
        x.choose(0);
        sameChosen(x, 0, 17, 2, 3, 4, 5, 6, 23);
        yes("kind 7 to none", x.force(NONE, 7));
        x.choose(0);
        sameChosen(x, 0, 17, 2, 3, 4, 5, 6, 7);
        yes("kind 1 to none", x.force(NONE, 1));
        yes("kind 1 to none again", x.force(NONE, 1));
        x.choose(0);
        sameChosen(x, 0, 1, 2, 3, 4, 5, 6, 7);
    }

    private static void noSuchToForce() {
        says("Promise 8: False if there is none such");
        Counted x = withTools(2);
        x.ask(0, 0, true);
        x.force(1, 0);
        for (int tool : new int[] {2, 24, -2, MIN, MAX}) {
            no("force(" + tool + ", 0)", x.force(tool, 0));
        }
        for (int kind : new int[] {-1, 8, MIN, MAX}) {
            no("force(NONE, " + kind + ")", x.force(NONE, kind));
        }
        x.choose(0);
        same("still forced to 1", x.chosen(0), 1);
    }

    // Promises 9 to 14

    private static void chooseFindsNone() {
        says("Promise 9: NONE if there is none, or no such platform. ROWS are told in any case but the last");
        Counted x = withPlatforms(0, 1);
        x.tool(0, 1, 0, 0);
        x.ask(0, 0, true);
        same("choose(0)", x.choose(0), 1);
        sameRows(x, row(0, 0, 3, 0), row(1, 0, 0, NONE));
        for (int platform : new int[] {-1, 2, 5, 6, MIN, MAX}) {
            same("choose(" + platform + ")", x.choose(platform), NONE);
            same("the rows before stay", x.rows(), 2);
            same("the tool before stays", x.chosen(0), 0);
        }
        sameRows(x, row(0, 0, 3, 0), row(1, 0, 0, NONE));
        x.ask(0, 1, true);
        same("there is none", x.choose(1), NONE);
        sameRows(x, row(0, 0, 2, NONE), row(1, 0, 2, NONE));
    }

    private static void chosenByTheLatest() {
        says("Promise 10: The tool of a KIND by the latest choosing of a platform that was there");
        Counted x = withPlatforms(1, 3);
        x.tool(0, 0, 0, 0);
        x.tool(0, 0, 2, 0);
        x.ask(0, 0, true);
        x.order(1, 0);
        same("choose(1)", x.choose(1), 0);
        same("chosen(0)", x.chosen(0), 1);
        x.order(0, 0);
        x.force(0, 0);
        x.ask(0, 9, true);
        x.needs(1, 7);
        x.drop(0);
        same("what comes after changes nothing", x.chosen(0), 1);
        same("choose(2)", x.choose(2), NONE);
        same("no platform that was there", x.chosen(0), 1);
        x.platform(0);
        same("it wasn't there then", x.chosen(0), 1);
        same("choose(2)", x.choose(2), 0);
        same("the latest asked nothing", x.chosen(0), NONE);
    }

    private static void noneIsChosen() {
        says("Promise 10: NONE if there is none");
        Counted x = withPlatforms(0);
        x.tool(0, 0, 0, 0);
        x.tool(7, 0, 0, 0);
        x.ask(0, 0, true);
        x.ask(7, 0, true);
        sameChosen(x);
        x.choose(0);
        sameChosen(x, 0, NONE, NONE, NONE, NONE, NONE, NONE, 1);
        for (int kind : new int[] {-1, 8, MIN, MAX}) {
            same("chosen(" + kind + ")", x.chosen(kind), NONE);
        }
        x.ask(7, 1, false);
        x.choose(0);
        sameChosen(x, 0);
        x.ask(7, 1, true);
        same("no platform", x.choose(0), NONE);
        sameChosen(x);
    }

    private static void rowsOfThatChoosing() {
        says("Promise 11: How many ROWS that choosing has");
        Counted x = withPlatforms(0, 0, 0, 0, 0, 0);
        same("before any choosing", x.rows(), 0);
        for (int i = 0; i < 24; i++) {
            x.tool(7 - i / 3, 0, 0, 0);
        }
        for (int kind = 0; kind < 8; kind++) {
            x.ask(kind, 1, kind == 7);
        }
        same("choose(5)", x.choose(5), NONE);
        same("24 tools on 6 platforms", x.rows(), 144);
        for (int i = 0; i < 144; i++) {
            same("platform of row " + i, x.row(i, 0), i / 24);
            same("tool of row " + i, x.row(i, 1), 21 - i % 24 / 3 * 3 + i % 3);
        }
        same("row(143, 2)", x.row(143, 2), 2);
        same("row(143, 3)", x.row(143, 3), NONE);
        same("row(144, 0)", x.row(144, 0), NONE);
        same("again", x.choose(5), NONE);
        same("no more than before", x.rows(), 144);
        x.ask(0, 0, true);
        x.ask(7, 1, false);
        x.choose(0);
        same("fewer", x.rows(), 22);
        same("the old ones are gone", x.row(22, 0), NONE);
        same("choose(6)", x.choose(6), NONE);
        same("that choosing has them still", x.rows(), 22);
        for (int kind = 0; kind < 8; kind++) {
            x.drop(kind);
        }
        same("none before the next choosing", x.rows(), 22);
        x.choose(0);
        same("nothing is asked", x.rows(), 0);
        same("row(0, 0)", x.row(0, 0), NONE);
    }

    private static void noSuchRow() {
        says("Promise 12: NONE if there is none such, or for another what");
        Counted x = withPlatforms(0, 1);
        x.tool(0, 1, 0, 0);
        x.ask(0, 0, true);
        x.choose(0);
        sameRows(x, row(0, 0, 3, 0), row(1, 0, 0, NONE));
        for (int what = 0; what < 4; what++) {
            // Rows times four, and the like, wrap round to a row that is there.
            for (int i : new int[] {-1, -2, 2, 3, MIN, MAX, 1 << 30, 3 << 30, (1 << 30) + 1}) {
                same("row(" + i + ", " + what + ")", x.row(i, what), NONE);
            }
        }
        for (int i = 0; i < 2; i++) {
            for (int what : new int[] {-1, -4, 4, 5, 7, MIN, MAX}) {
                same("row(" + i + ", " + what + ")", x.row(i, what), NONE);
            }
        }
        same("row(1, -4)", x.row(1, -4), NONE);
    }

    private static void builtAsByNow() {
        says("Promise 13: Whether a tool is BUILT for running on a platform, as by now");
        Counted x = withPlatforms(0);
        x.tool(0, 1, 0, 0);
        no("not there", x.built(0, 0));
        no("platform 1 isn't there", x.built(0, 1));
        x.platform(1);
        yes("platform 1 is there", x.built(0, 1));
        x.needs(0, 1);
        no("it needs a kind", x.built(0, 1));
        x.tool(1, 2, 0, 0);
        no("it runs nowhere", x.built(0, 1));
        x.platform(2);
        yes("it runs on the new one", x.built(0, 1));
    }

    private static void noSuchBuilt() {
        says("Promise 13: false if there are none such");
        Counted x = withPlatforms(0, 0);
        x.tool(0, 0, 0, 0);
        x.tool(0, 0, 0, 0);
        yes("the last of both", x.built(1, 1));
        for (int bad : new int[] {-1, 2, 6, 24, 31, 32, 33, MIN, MAX}) {
            no("built(" + bad + ", 0)", x.built(bad, 0));
            no("built(0, " + bad + ")", x.built(0, bad));
            no("built(" + bad + ", " + bad + ")", x.built(bad, bad));
        }
    }

    private static void ringByNumber() {
        says("Promise 14: The i-th tool, by number, that is in a RING, as by now");
        Counted x = withTools(24);
        for (int tool = 23; tool >= 0; tool--) {
            x.order(tool, 23);
            x.needs(tool, 0);
        }
        sameRing(x, 0, 1, 2, 3, 4, 5, 6, 7, 8, 9, 10, 11, 12, 13, 14, 15, 16, 17, 18, 19, 20, 21, 22, 23);
        Counted served = withTools(24);
        for (int tool = 0; tool < 23; tool++) {
            served.needs(tool, 0);
        }
        sameRing(served);
        Counted odd = withPlatforms(0);
        for (int i = 0; i < 24; i++) {
            odd.tool(i % 2, 0, 0, 0);
        }
        for (int i = 1; i < 24; i += 2) {
            odd.needs(i, 1);
        }
        sameRing(odd, 1, 3, 5, 7, 9, 11, 13, 15, 17, 19, 21, 23);
    }

    private static void noSuchRing() {
        says("Promise 14: NONE if there is none such");
        Counted x = withTools(1);
        for (int i : new int[] {0, 1, -1, MIN, MAX}) {
            same("ring(" + i + ")", x.ring(i), NONE);
        }
        x.needs(0, 0);
        same("ring(0)", x.ring(0), 0);
        for (int i : new int[] {1, 2, 24, -1, MIN, MAX}) {
            same("ring(" + i + ")", x.ring(i), NONE);
        }
    }

    // Refused calls

    private interface Call {
        int on(Counted x);
    }

    private record Refused(String name, Call call, int due) {}

    private interface Reading {
        void of(Counted x, List<Integer> answers);
    }

    private static void empty(Counted x) {
        same("calls of an empty object", x.calls, 0);
    }

    /** Three platforms and six tools, with something of all that an object holds. */
    private static void filledInPart(Counted x) {
        int[] platforms = {1, 3, 7};
        for (int constraints : platforms) {
            x.platform(constraints);
        }
        x.tool(0, 2, 1, 4);
        x.tool(0, 0, 2, 3);
        x.tool(1, 1, 0, 2);
        x.tool(1, 4, 0, 6);
        x.tool(2, 0, 4, 1);
        x.tool(7, 0, 0, 0);
        x.order(3, 1);
        x.needs(0, 1);
        x.needs(1, 7);
        x.needs(4, 2);
        x.ask(1, 2, true);
        x.ask(0, 3, true);
        x.ask(2, 1, false);
        x.force(3, 1);
        x.choose(1);
    }

    /** As many platforms, tools, needs and kinds asked as there may be. */
    private static void full(Counted x) {
        for (int i = 0; i < 6; i++) {
            x.platform(1 << i | 64);
        }
        for (int i = 0; i < 24; i++) {
            x.tool(i % 8, 1 << i % 6, i % 5 == 0 ? 64 : 1 << i % 3, i);
        }
        for (int i = 0; i < 40; i++) {
            yes("needs", x.needs(i % 20, i < 20 ? (i + 1) % 8 : (i + 3) % 8));
        }
        for (int kind = 7; kind >= 0; kind--) {
            x.ask(kind, kind, kind == 5);
        }
        x.order(23, 0);
        x.force(21, 5);
        x.choose(0);
    }

    private static int answer(boolean yes) {
        return yes ? 1 : 0;
    }

    private static void refuse(List<Refused> all, String name, int due, Call call) {
        all.add(new Refused(name, call, due));
    }

    /** Calls that are refused whatever the object holds, but for how many platforms and tools. */
    private static List<Refused> refusedCalls(int platforms, int tools) {
        List<Refused> all = new ArrayList<>();
        for (int kind : new int[] {-1, 8, MIN, MAX}) {
            refuse(all, "tool of kind " + kind, NONE, x -> x.tool(kind, 0, 0, 99));
            refuse(all, "needs(0, " + kind + ")", 0, x -> answer(x.needs(0, kind)));
            refuse(all, "ask(" + kind + ")", 0, x -> answer(x.ask(kind, 99, true)));
            refuse(all, "drop(" + kind + ")", 0, x -> answer(x.drop(kind)));
            refuse(all, "force(NONE, " + kind + ")", 0, x -> answer(x.force(NONE, kind)));
            refuse(all, "chosen(" + kind + ")", NONE, x -> x.chosen(kind));
        }
        for (int tool : new int[] {-2, -1, tools, MIN, MAX}) {
            refuse(all, "order(" + tool + ", 0)", 0, x -> answer(x.order(tool, 0)));
            refuse(all, "order(0, " + tool + ")", 0, x -> answer(x.order(0, tool)));
            refuse(all, "needs(" + tool + ", 0)", 0, x -> answer(x.needs(tool, 0)));
            refuse(all, "built(" + tool + ", 0)", 0, x -> answer(x.built(tool, 0)));
            if (tool != NONE) {
                refuse(all, "force(" + tool + ", 1)", 0, x -> answer(x.force(tool, 1)));
            }
        }
        for (int platform : new int[] {-1, platforms, MIN, MAX}) {
            refuse(all, "choose(" + platform + ")", NONE, x -> x.choose(platform));
            refuse(all, "built(0, " + platform + ")", 0, x -> answer(x.built(0, platform)));
        }
        for (int bad : new int[] {-1, MIN, MAX}) {
            refuse(all, "row(" + bad + ", 1)", NONE, x -> x.row(bad, 1));
            refuse(all, "row(0, " + bad + ")", NONE, x -> x.row(0, bad));
            refuse(all, "ring(" + bad + ")", NONE, x -> x.ring(bad));
        }
        return all;
    }

    private static void readLatest(Counted x, List<Integer> answers) {
        int rows = x.rows();
        answers.add(rows);
        for (int kind = 0; kind < 8; kind++) {
            answers.add(x.chosen(kind));
        }
        for (int i = 0; i < rows; i++) {
            for (int what = 0; what < 4; what++) {
                answers.add(x.row(i, what));
            }
        }
    }

    private static void readBuilt(Counted x, List<Integer> answers) {
        for (int tool = 0; tool < 24; tool++) {
            answers.add(x.ring(tool));
            for (int platform = 0; platform < 6; platform++) {
                answers.add(answer(x.built(tool, platform)));
            }
        }
    }

    private static Reading choosingFor(int platform) {
        return (x, answers) -> {
            answers.add(x.choose(platform));
            readLatest(x, answers);
        };
    }

    private static void readRoomForTools(Counted x, List<Integer> answers) {
        for (int i = 0; i <= 24; i++) {
            answers.add(x.tool(0, 0, 0, 99));
        }
        for (int kind = 0; kind < 8; kind++) {
            answers.add(answer(x.drop(kind)));
            answers.add(answer(x.force(NONE, kind)));
        }
        for (int i = 0; i <= 6; i++) {
            answers.add(x.platform(0));
        }
        x.ask(0, 99, true);
        answers.add(x.choose(0));
        answers.add(x.chosen(0));
        answers.add(x.rows());
    }

    private static void readRoomForNeeds(Counted x, List<Integer> answers) {
        for (int i = 0; i < 6; i++) {
            answers.add(x.tool(i, 0, 0, 0));
        }
        for (int tool = 0; tool < 24; tool++) {
            for (int kind = 0; kind < 8; kind++) {
                answers.add(answer(x.needs(tool, kind)));
            }
        }
    }

    private interface Filling {
        void of(Counted x);
    }

    /** Each way of reading has new objects of its own, as reading by choosing changes what is read. */
    private static void leavesAllAsItWas(Filling filling, List<Refused> calls) {
        List<Reading> readings = new ArrayList<>();
        readings.add(ToolChoiceBoundaries::readLatest);
        readings.add(ToolChoiceBoundaries::readBuilt);
        readings.add(ToolChoiceBoundaries::readRoomForTools);
        readings.add(ToolChoiceBoundaries::readRoomForNeeds);
        for (int platform = 0; platform < 6; platform++) {
            readings.add(choosingFor(platform));
        }
        for (Reading reading : readings) {
            Counted plain = new Counted();
            filling.of(plain);
            List<Integer> due = new ArrayList<>();
            reading.of(plain, due);
            for (Refused refused : calls) {
                Counted x = new Counted();
                filling.of(x);
                same(refused.name(), refused.call().on(x), refused.due());
                List<Integer> got = new ArrayList<>();
                reading.of(x, got);
                if (!got.equals(due)) {
                    complain(refused.name() + " was refused, yet what is read after it is " + got + ", due is " + due);
                }
            }
        }
    }

    private static void refusedOnAnEmptyObject() {
        says("a refused call leaves an empty object as it was");
        List<Refused> calls = refusedCalls(0, 0);
        refuse(calls, "drop(0)", 0, x -> answer(x.drop(0)));
        refuse(calls, "force(0, 0)", 0, x -> answer(x.force(0, 0)));
        leavesAllAsItWas(ToolChoiceBoundaries::empty, calls);
    }

    private static void refusedOnAFilledObject() {
        says("a refused call leaves an object that is filled in part as it was");
        List<Refused> calls = refusedCalls(3, 6);
        refuse(calls, "needs(1, 7), which is there", 0, x -> answer(x.needs(1, 7)));
        refuse(calls, "drop(7), which isn't asked", 0, x -> answer(x.drop(7)));
        leavesAllAsItWas(ToolChoiceBoundaries::filledInPart, calls);
    }

    private static void refusedOnAFullObject() {
        says("a refused call leaves a full object as it was");
        List<Refused> calls = refusedCalls(6, 24);
        refuse(calls, "a seventh platform", NONE, x -> x.platform(-1));
        refuse(calls, "a 25th tool", NONE, x -> x.tool(0, 0, 0, 99));
        refuse(calls, "a 41st row of NEEDS", 0, x -> answer(x.needs(23, 7)));
        refuse(calls, "needs(0, 1), which is there", 0, x -> answer(x.needs(0, 1)));
        leavesAllAsItWas(ToolChoiceBoundaries::full, calls);
    }

    private static void testWhatItIsAndTerms() {
        the512thCall();
        platformsAreAtMostSix();
        constraintsAreBits0To31();
        fitsWhenItHasAll();
        toolsAreAtMost24();
        kindsAre0To7();
        orderIsAtFirstAsTheyCame();
        needsAreAtMost40();
        oneOfTheSameKindIsNeeded();
        builtIfItFitsAndAllIsThere();
        justTheLeastAreBuilt();
        askedAtMostOnce();
        leastVersion();
        theConstant();
    }

    private static void testChoosingAndRings() {
        allPlatformsAreGoneThrough();
        theFirstGoodIsTaken();
        aNeededKindHasNone();
        aKindNotNeededHasNone();
        theFirstPlatformIsChosen();
        aRowForEachLook();
        forcedToAnother();
        lowestConstraintOfRun();
        lowestConstraintOfMake();
        lowestKindNotBuilt();
        theLeastWhyCounts();
        aToolLeadsToEach();
        byOneStepOrMore();
        allOnTheWayAreNotBuilt();
    }

    private static void testPromises() {
        noPlatforms();
        noTools();
        nothingAsked();
        noneIfThereAreSix();
        theLastOneInTheOrder();
        noneIfThereAre24();
        placesOfTheOrder();
        noSuchPlaceOrTool();
        noSuchNeed();
        askedAnew();
        noSuchKindToAsk();
        droppedKinds();
        forcedToATool();
        noSuchToForce();
        chooseFindsNone();
        chosenByTheLatest();
        noneIsChosen();
        rowsOfThatChoosing();
        noSuchRow();
        builtAsByNow();
        noSuchBuilt();
        ringByNumber();
        noSuchRing();
    }

    private static void testRefusedCalls() {
        refusedOnAnEmptyObject();
        refusedOnAFilledObject();
        refusedOnAFullObject();
    }

    public static void main(String[] args) {
        testWhatItIsAndTerms();
        testChoosingAndRings();
        testPromises();
        testRefusedCalls();
        System.out.println(wrong == 0 ? "all answers are as due" : wrong + " answers are not as due");
        if (wrong != 0) {
            System.exit(1);
        }
    }
}
