/** At least one test of each promise of the document: ordinary inputs, edges and wrong inputs. */
public final class ToolChoicePromises {
    private static final int NONE = -1;
    private static int wrong = 0;
    private static String promise = "";

    private static void same(String what, int got, int want) {
        if (got != want) {
            wrong++;
            System.out.println(promise + ": " + what + " answered " + got + ", due is " + want);
        }
    }

    private static void yes(String what, boolean got) {
        same(what, got ? 1 : 0, 1);
    }

    private static void no(String what, boolean got) {
        same(what, got ? 1 : 0, 0);
    }

    private static void sameRow(ToolChoice x, int i, int host, int tool, int why, int lack) {
        same("row(" + i + ", 0)", x.row(i, 0), host);
        same("row(" + i + ", 1)", x.row(i, 1), tool);
        same("row(" + i + ", 2)", x.row(i, 2), why);
        same("row(" + i + ", 3)", x.row(i, 3), lack);
    }

    /** The tools of kind 0 in their order, read off the rows of a choosing in which none is good. */
    private static void sameOrder(ToolChoice x, int... tools) {
        x.ask(0, Integer.MAX_VALUE, true);
        x.choose(0);
        same("rows()", x.rows(), tools.length);
        for (int i = 0; i < tools.length; i++) {
            same("tool at place " + i, x.row(i, 1), tools[i]);
        }
    }

    private static ToolChoice onePlatform(int constraints) {
        ToolChoice x = new ToolChoice();
        x.platform(constraints);
        return x;
    }

    private static void newObject() {
        ToolChoice x = new ToolChoice();
        same("NONE", ToolChoice.NONE, NONE);
        same("rows()", x.rows(), 0);
        same("row(0, 0)", x.row(0, 0), NONE);
        same("choose(0)", x.choose(0), NONE);
        same("ring(0)", x.ring(0), NONE);
        no("built(0, 0)", x.built(0, 0));
        no("order(0, 0)", x.order(0, 0));
        no("needs(0, 0)", x.needs(0, 0));
        no("force(0, 0)", x.force(0, 0));
        for (int kind = 0; kind < 8; kind++) {
            same("chosen", x.chosen(kind), NONE);
            no("drop", x.drop(kind));
        }
        same("first platform", x.platform(0), 0);
        same("first tool", x.tool(0, 0, 0, 0), 0);
        same("nothing is asked", x.choose(0), 0);
        same("rows() with nothing asked", x.rows(), 0);
        ToolChoice other = new ToolChoice();
        same("another object is new too", other.platform(0), 0);
    }

    private static void platforms() {
        ToolChoice x = new ToolChoice();
        int[] constraints = {0, -1, 1, Integer.MIN_VALUE, Integer.MAX_VALUE, 6};
        for (int i = 0; i < 6; i++) {
            same("platform", x.platform(constraints[i]), i);
        }
        same("a seventh", x.platform(5), NONE);
        same("an eighth", x.platform(-1), NONE);
        same("choose(6)", x.choose(6), NONE);
        same("choose(5)", x.choose(5), 0);
        x.tool(0, 0, 6, 0);
        x.ask(0, 0, true);
        same("makes for 5", x.choose(5), 0);
        same("makes for 4", x.choose(4), 0);
        same("makes not for 3", x.choose(3), NONE);
        same("rows of all six", x.rows(), 6);
        for (int i = 0; i < 6; i++) {
            sameRow(x, i, i, 0, 4, 1);
        }
    }

    private static void tools() {
        ToolChoice x = onePlatform(-1);
        same("kind -1", x.tool(-1, 0, 0, 0), NONE);
        same("kind 8", x.tool(8, 0, 0, 0), NONE);
        same("kind MIN", x.tool(Integer.MIN_VALUE, 0, 0, 0), NONE);
        same("kind MAX", x.tool(Integer.MAX_VALUE, 0, 0, 0), NONE);
        for (int i = 0; i < 24; i++) {
            same("tool", x.tool(i == 23 ? 7 : 0, 0, 0, 23 - i), i);
        }
        same("a 25th", x.tool(0, 0, 0, 100), NONE);
        no("order(24, 0)", x.order(24, 0));
        x.ask(7, 0, true);
        same("choose", x.choose(0), 0);
        same("the last tool is of kind 7", x.chosen(7), 23);
        x.drop(7);
        int[] all = new int[23];
        for (int i = 0; i < 23; i++) {
            all[i] = i;
        }
        sameOrder(x, all);

        ToolChoice last = onePlatform(0);
        last.tool(0, 0, 0, 0);
        last.tool(0, 0, 0, 0);
        last.order(0, 1);
        last.tool(0, 0, 0, 0);
        sameOrder(last, 1, 0, 2);
    }

    private static void ordering() {
        ToolChoice x = onePlatform(0);
        for (int i = 0; i < 5; i++) {
            x.tool(0, 0, 0, 0);
        }
        sameOrder(x, 0, 1, 2, 3, 4);
        yes("back", x.order(1, 3));
        sameOrder(x, 0, 2, 3, 1, 4);
        yes("forth", x.order(1, 1));
        sameOrder(x, 0, 1, 2, 3, 4);
        yes("to the first", x.order(4, 0));
        sameOrder(x, 4, 0, 1, 2, 3);
        yes("to the last", x.order(4, 4));
        sameOrder(x, 0, 1, 2, 3, 4);
        yes("where it is", x.order(2, 2));
        sameOrder(x, 0, 1, 2, 3, 4);
        no("place -1", x.order(2, -1));
        no("place 5", x.order(2, 5));
        no("place MAX", x.order(2, Integer.MAX_VALUE));
        no("place MIN", x.order(2, Integer.MIN_VALUE));
        no("tool -1", x.order(-1, 0));
        no("tool 5", x.order(5, 0));
        sameOrder(x, 0, 1, 2, 3, 4);

        ToolChoice full = onePlatform(0);
        int[] turned = new int[24];
        for (int i = 0; i < 24; i++) {
            full.tool(0, 0, 0, 0);
            turned[i] = (i + 1) % 24;
        }
        yes("the first of 24 to the last place", full.order(0, 23));
        sameOrder(full, turned);
        no("place 24", full.order(0, 24));

        ToolChoice mixed = onePlatform(0);
        mixed.tool(0, 0, 0, 0);
        mixed.tool(1, 0, 0, 0);
        mixed.tool(0, 0, 0, 0);
        yes("places count tools of all kinds", mixed.order(0, 1));
        sameOrder(mixed, 0, 2);
        yes("behind the other", mixed.order(0, 2));
        sameOrder(mixed, 2, 0);
    }

    private static void needing() {
        ToolChoice x = onePlatform(0);
        no("no tool yet", x.needs(0, 0));
        for (int i = 0; i < 24; i++) {
            x.tool(i % 8, 0, 0, 0);
        }
        no("tool -1", x.needs(-1, 0));
        no("tool 24", x.needs(24, 0));
        no("kind -1", x.needs(0, -1));
        no("kind 8", x.needs(0, 8));
        no("kind 32, which a shift would take for 0", x.needs(0, 32));
        for (int i = 0; i < 40; i++) {
            yes("needs row " + i, x.needs(i / 8, i % 8));
            no("the same again", x.needs(i / 8, i % 8));
        }
        no("a 41st", x.needs(5, 0));
        yes("tool 5 is built, as it needs nothing", x.built(5, 0));

        ToolChoice lacking = onePlatform(0);
        lacking.tool(2, 0, 0, 0);
        yes("built before", lacking.built(0, 0));
        yes("needs(0, 7)", lacking.needs(0, 7));
        no("built after", lacking.built(0, 0));
        lacking.tool(7, 0, 0, 0);
        yes("built by the new tool", lacking.built(0, 0));
    }

    private static void asking() {
        ToolChoice x = onePlatform(0);
        for (int kind = 0; kind < 8; kind++) {
            x.tool(kind, 0, 0, 5);
        }
        no("kind -1", x.ask(-1, 0, true));
        no("kind 8", x.ask(8, 0, true));
        no("kind MIN", x.ask(Integer.MIN_VALUE, 0, false));
        same("nothing is asked", x.choose(0), 0);
        same("rows()", x.rows(), 0);
        int[] kinds = {3, 7, 0, 5, 1, 6, 2, 4};
        for (int kind : kinds) {
            yes("ask", x.ask(kind, 0, true));
        }
        yes("anew", x.ask(3, 6, false));
        yes("anew", x.ask(0, 5, true));
        same("choose", x.choose(0), 0);
        same("rows()", x.rows(), 8);
        sameRow(x, 0, 0, 3, 2, NONE);
        for (int i = 1; i < 8; i++) {
            sameRow(x, i, 0, kinds[i], 0, NONE);
        }
        same("chosen(3)", x.chosen(3), NONE);
        yes("needed now", x.ask(3, 6, true));
        same("choose", x.choose(0), NONE);
        same("rows()", x.rows(), 1);
        yes("not needed any more", x.ask(3, 6, false));
        same("choose", x.choose(0), 0);
        same("rows()", x.rows(), 8);
        yes("less asked", x.ask(3, Integer.MIN_VALUE, true));
        same("choose", x.choose(0), 0);
        same("chosen(3)", x.chosen(3), 3);

        ToolChoice signed = onePlatform(0);
        signed.tool(0, 0, 0, Integer.MIN_VALUE);
        signed.tool(0, 0, 0, Integer.MAX_VALUE);
        signed.ask(0, 0, true);
        same("choose", signed.choose(0), 0);
        same("versions are signed", signed.chosen(0), 1);
        signed.ask(0, Integer.MIN_VALUE, true);
        same("choose", signed.choose(0), 0);
        same("an equal version is enough", signed.chosen(0), 0);
    }

    private static void dropping() {
        ToolChoice x = onePlatform(0);
        for (int kind = 0; kind < 8; kind++) {
            x.tool(kind, 0, 0, 0);
        }
        no("not asked", x.drop(2));
        no("kind -1", x.drop(-1));
        no("kind 8", x.drop(8));
        for (int kind = 0; kind < 8; kind++) {
            x.ask(kind, 0, true);
        }
        yes("the first", x.drop(0));
        no("the first again", x.drop(0));
        yes("a middle one", x.drop(4));
        yes("the last", x.drop(7));
        same("choose", x.choose(0), 0);
        int[] left = {1, 2, 3, 5, 6};
        same("rows()", x.rows(), left.length);
        for (int i = 0; i < left.length; i++) {
            sameRow(x, i, 0, left[i], 0, NONE);
        }
        same("chosen(4)", x.chosen(4), NONE);
        yes("asked once more", x.ask(1, 0, true));
        yes("drop", x.drop(1));
        yes("asked after a drop", x.ask(1, 0, true));
        same("choose", x.choose(0), 0);
        sameRow(x, 0, 0, 2, 0, NONE);
        sameRow(x, 4, 0, 1, 0, NONE);
        yes("drop", x.drop(2));
        same("the latest choosing keeps its tool", x.chosen(2), 2);
        for (int kind = 0; kind < 8; kind++) {
            x.drop(kind);
        }
        same("choose", x.choose(0), 0);
        same("rows()", x.rows(), 0);
    }

    private static void forcing() {
        ToolChoice x = onePlatform(0);
        x.tool(2, 0, 0, 0);
        x.tool(2, 0, 0, 1);
        x.tool(2, 0, 0, 2);
        x.tool(3, 0, 0, 0);
        x.ask(2, 0, true);
        x.ask(3, 0, true);
        yes("force, the kind being the tool's", x.force(1, 3));
        same("choose", x.choose(0), 0);
        same("rows()", x.rows(), 3);
        sameRow(x, 0, 0, 0, 1, NONE);
        sameRow(x, 1, 0, 1, 0, NONE);
        sameRow(x, 2, 0, 3, 0, NONE);
        yes("the kind given with a tool counts nothing", x.force(2, 99));
        same("choose", x.choose(0), 0);
        same("chosen(2)", x.chosen(2), 2);
        no("tool 4", x.force(4, 2));
        no("tool -2", x.force(-2, 2));
        no("tool MIN", x.force(Integer.MIN_VALUE, 2));
        no("none, kind -1", x.force(NONE, -1));
        no("none, kind 8", x.force(NONE, 8));
        yes("none, another kind", x.force(NONE, 3));
        same("choose", x.choose(0), 0);
        same("still forced", x.chosen(2), 2);
        x.ask(2, 3, true);
        same("a forced tool must be good too", x.choose(0), NONE);
        sameRow(x, 0, 0, 0, 1, NONE);
        sameRow(x, 1, 0, 1, 1, NONE);
        sameRow(x, 2, 0, 2, 2, NONE);
        x.ask(2, 0, true);
        yes("none", x.force(NONE, 2));
        yes("none again", x.force(NONE, 2));
        same("choose", x.choose(0), 0);
        same("chosen(2)", x.chosen(2), 0);
    }

    private static void choosing() {
        ToolChoice x = new ToolChoice();
        x.platform(1);
        x.platform(2);
        x.platform(3);
        x.tool(0, 1, 0, 0);
        x.tool(1, 2, 0, 0);
        x.ask(0, 0, true);
        x.ask(1, 0, true);
        same("one platform for all kinds", x.choose(0), 2);
        same("rows()", x.rows(), 5);
        sameRow(x, 0, 0, 0, 0, NONE);
        sameRow(x, 1, 0, 1, 3, 1);
        sameRow(x, 2, 1, 0, 3, 0);
        sameRow(x, 3, 2, 0, 0, NONE);
        sameRow(x, 4, 2, 1, 0, NONE);
        x.ask(0, 0, false);
        same("a kind that isn't needed may lack one", x.choose(0), 1);
        same("chosen(0)", x.chosen(0), NONE);
        same("chosen(1)", x.chosen(1), 1);
        same("rows()", x.rows(), 4);
        same("no platform -1", x.choose(-1), NONE);
        same("no platform 3", x.choose(3), NONE);
        same("no platform MAX", x.choose(Integer.MAX_VALUE), NONE);
        same("no platform MIN", x.choose(Integer.MIN_VALUE), NONE);
        same("rows stay", x.rows(), 4);
        same("chosen stays", x.chosen(1), 1);
        x.ask(5, 0, false);
        same("a kind without tools, not needed", x.choose(0), 1);
        x.ask(5, 0, true);
        same("a kind without tools, needed", x.choose(0), NONE);
        same("rows are told still", x.rows(), 6);
    }

    private static void leastWhyCounts() {
        ToolChoice x = onePlatform(5);
        x.tool(0, 2, 8, 0);
        x.tool(0, 0, 0, 9);
        x.needs(0, 6);
        x.force(1, 0);
        x.ask(0, 1, true);
        x.choose(0);
        sameRow(x, 0, 0, 0, 1, NONE);
        x.force(NONE, 0);
        x.choose(0);
        sameRow(x, 0, 0, 0, 2, NONE);
        x.ask(0, 0, true);
        x.choose(0);
        sameRow(x, 0, 0, 0, 3, 1);

        ToolChoice make = onePlatform(5);
        make.tool(0, 5, 8 | 2, 0);
        make.needs(0, 6);
        make.ask(0, 0, true);
        make.choose(0);
        sameRow(make, 0, 0, 0, 4, 1);

        ToolChoice high = onePlatform(Integer.MAX_VALUE);
        high.tool(0, Integer.MIN_VALUE, 0, 0);
        high.tool(0, 0, -1, 0);
        high.ask(0, 0, true);
        high.choose(0);
        sameRow(high, 0, 0, 0, 3, 31);
        sameRow(high, 1, 0, 1, 4, 31);

        ToolChoice build = onePlatform(1);
        build.tool(0, 0, 0, 0);
        build.tool(2, 0, 0, 0);
        build.tool(4, 0, 2, 0);
        build.needs(0, 6);
        build.needs(0, 4);
        build.needs(0, 2);
        build.ask(0, 0, true);
        build.choose(0);
        sameRow(build, 0, 0, 0, 5, 4);
        build.needs(0, 0);
        build.choose(0);
        sameRow(build, 0, 0, 0, 5, 0);
        build.tool(0, 0, 0, -1);
        build.tool(4, 0, 1, 0);
        build.choose(0);
        sameRow(build, 0, 0, 0, 5, 6);
        build.tool(6, 0, 1, 0);
        same("all that it needs is there", build.choose(0), 0);
        sameRow(build, 0, 0, 0, 0, NONE);
    }

    private static void chosenTools() {
        ToolChoice x = new ToolChoice();
        x.platform(1);
        x.platform(1);
        x.tool(0, 0, 0, 0);
        x.tool(7, 0, 1, 0);
        x.ask(0, 0, true);
        same("none before a choosing", x.chosen(0), NONE);
        same("choose", x.choose(1), 0);
        same("chosen(0)", x.chosen(0), 0);
        same("kind not asked", x.chosen(7), NONE);
        same("kind -1", x.chosen(-1), NONE);
        same("kind 8", x.chosen(8), NONE);
        same("kind MIN", x.chosen(Integer.MIN_VALUE), NONE);
        same("kind MAX", x.chosen(Integer.MAX_VALUE), NONE);
        x.drop(0);
        x.ask(7, 0, true);
        same("choose", x.choose(1), 0);
        same("not asked this time", x.chosen(0), NONE);
        same("chosen(7)", x.chosen(7), 1);
        x.drop(7);
        x.ask(0, 0, true);
        same("choose", x.choose(1), 0);
        x.ask(7, 1, true);
        same("asking chooses nothing", x.chosen(0), 0);
        same("choose(9)", x.choose(9), NONE);
        same("no platform there: the one before counts", x.chosen(0), 0);
        same("choose fails", x.choose(1), NONE);
        same("what was taken on no chosen platform isn't chosen", x.chosen(0), NONE);
        same("nor that", x.chosen(7), NONE);
    }

    private static void rowsAndRow() {
        ToolChoice x = new ToolChoice();
        for (int i = 0; i < 6; i++) {
            x.platform(i);
        }
        for (int i = 0; i < 24; i++) {
            x.tool(i % 8, 0, i == 23 ? 8 : 0, 0);
        }
        for (int kind = 0; kind < 7; kind++) {
            x.ask(kind, 1, false);
        }
        x.ask(7, 1, true);
        same("choose", x.choose(0), NONE);
        same("rows() at the most", x.rows(), 144);
        sameRow(x, 0, 0, 0, 2, NONE);
        sameRow(x, 1, 0, 8, 2, NONE);
        sameRow(x, 143, 5, 23, 2, NONE);
        same("row(144, 0)", x.row(144, 0), NONE);
        same("row(-1, 0)", x.row(-1, 0), NONE);
        same("row(MIN, 0)", x.row(Integer.MIN_VALUE, 0), NONE);
        same("row(MAX, 0)", x.row(Integer.MAX_VALUE, 0), NONE);
        same("row(2^30, 0), which four times is 0", x.row(1 << 30, 0), NONE);
        same("row(0, -1)", x.row(0, -1), NONE);
        same("row(0, 4)", x.row(0, 4), NONE);
        same("row(1, -4)", x.row(1, -4), NONE);
        same("row(0, MAX)", x.row(0, Integer.MAX_VALUE), NONE);
        x.tool(0, 0, 0, 5);
        x.ask(7, 0, true);
        same("rows stay until the next choosing", x.rows(), 144);
        same("choose", x.choose(0), 0);
        same("rows() anew", x.rows(), 22);
        same("row(22, 1)", x.row(22, 1), NONE);
        same("choose(6)", x.choose(6), NONE);
        same("rows() stays", x.rows(), 22);
        sameRow(x, 21, 0, 7, 0, NONE);
    }

    private static void building() {
        ToolChoice x = new ToolChoice();
        x.platform(1);
        x.platform(2);
        x.tool(0, 2, 0, 0);
        no("runs not there", x.built(0, 0));
        yes("runs there", x.built(0, 1));
        no("tool 1", x.built(1, 1));
        no("tool -1", x.built(-1, 1));
        no("platform 2", x.built(0, 2));
        no("platform -1", x.built(0, -1));
        no("platform 33, which a shift would take for 1", x.built(0, 33));
        x.tool(1, 0, 1, 0);
        x.needs(1, 0);
        yes("by a tool that runs elsewhere", x.built(1, 0));
        yes("by a tool that makes for both", x.built(1, 1));
        x.tool(2, 0, 0, 0);
        x.needs(2, 1);
        yes("made for 0 alone", x.built(2, 0));
        no("not made for 1", x.built(2, 1));
        x.needs(0, 2);
        no("a ring builds nothing", x.built(0, 1));
        no("nor what hangs on it", x.built(2, 0));
        x.tool(2, 2, 2, 0);
        yes("a way into the ring", x.built(0, 1));
        yes("and on", x.built(1, 0));
        yes("and round", x.built(2, 0));
        x.platform(3);
        yes("a new platform counts", x.built(2, 2));

        ToolChoice both = new ToolChoice();
        both.platform(1);
        both.platform(2);
        both.tool(0, 0, 1, 0);
        both.tool(0, 0, 2, 0);
        both.tool(1, 0, 0, 0);
        both.needs(2, 0);
        yes("one of a kind makes for 0", both.built(2, 0));
        yes("another of it makes for 1", both.built(2, 1));
        both.tool(3, 1, 0, 0);
        both.needs(3, 0);
        yes("supplied where it runs", both.built(3, 0));
        no("supplied where it doesn't run", both.built(3, 1));
        both.needs(3, 2);
        both.needs(3, 1);
        no("all kinds must be there", both.built(3, 0));

        ToolChoice chain = onePlatform(0);
        for (int kind = 0; kind < 8; kind++) {
            chain.tool(kind, 0, 0, 0);
        }
        for (int tool = 0; tool < 7; tool++) {
            chain.needs(tool, tool + 1);
        }
        for (int tool = 0; tool < 8; tool++) {
            yes("a chain against the numbers", chain.built(tool, 0));
        }
        chain.needs(7, 7);
        for (int tool = 0; tool < 8; tool++) {
            no("all hang on the last", chain.built(tool, 0));
        }
        chain.tool(7, 0, 0, 0);
        for (int tool = 0; tool < 9; tool++) {
            yes("another of the last kind", chain.built(tool, 0));
        }
    }

    private static void rings() {
        ToolChoice x = new ToolChoice();
        x.platform(1);
        x.platform(2);
        x.tool(0, 1, 2, 0);
        x.tool(1, 0, 0, 0);
        x.tool(1, 2, 1, 0);
        x.needs(0, 1);
        x.needs(2, 0);
        same("tool 1 builds all", x.ring(0), NONE);
        x.needs(1, 7);
        same("ring(0)", x.ring(0), 0);
        same("ring(1): tool 1 leads to none", x.ring(1), 2);
        same("ring(2)", x.ring(2), NONE);
        same("ring(-1)", x.ring(-1), NONE);
        same("ring(MIN)", x.ring(Integer.MIN_VALUE), NONE);
        same("ring(MAX)", x.ring(Integer.MAX_VALUE), NONE);
        x.tool(3, 0, 0, 0);
        x.needs(3, 0);
        same("what leads into a ring isn't in it", x.ring(2), NONE);
        x.tool(7, 0, 0, 0);
        same("as by now", x.ring(0), NONE);

        ToolChoice self = onePlatform(0);
        self.tool(4, 0, 0, 0);
        self.needs(0, 4);
        same("by itself", self.ring(0), 0);
        self.tool(4, 0, 0, 0);
        yes("built by the other", self.built(0, 0));
        same("a built tool isn't in a ring", self.ring(0), NONE);

        ToolChoice apart = new ToolChoice();
        apart.platform(1);
        apart.platform(2);
        apart.tool(0, 1, 2, 0);
        apart.needs(0, 0);
        same("it makes not for where it runs", apart.ring(0), NONE);
        no("but isn't built", apart.built(0, 0));

        ToolChoice half = onePlatform(0);
        half.tool(0, 0, 0, 0);
        half.tool(1, 0, 0, 0);
        half.tool(1, 0, 0, 0);
        half.needs(0, 1);
        half.needs(1, 0);
        half.needs(1, 7);
        yes("tool 0 is built by tool 2", half.built(0, 0));
        no("tool 1 isn't", half.built(1, 0));
        same("a way by a built tool is no ring", half.ring(0), NONE);

        ToolChoice fork = onePlatform(0);
        fork.tool(0, 0, 0, 0);
        fork.tool(1, 0, 0, 0);
        fork.tool(2, 0, 0, 0);
        fork.needs(0, 1);
        fork.needs(0, 2);
        fork.needs(1, 0);
        fork.needs(2, 7);
        same("one of two ways leads back", fork.ring(0), 0);
        same("ring(1)", fork.ring(1), 1);
        same("ring(2)", fork.ring(2), NONE);

        ToolChoice full = onePlatform(0);
        for (int i = 0; i < 24; i++) {
            full.tool(i % 8, 0, 0, 0);
            full.needs(i, (i + 1) % 8);
        }
        for (int i = 0; i < 24; i++) {
            same("all 24 in rings", full.ring(i), i);
        }
        same("ring(24)", full.ring(24), NONE);

        ToolChoice nowhere = onePlatform(0);
        nowhere.tool(0, 0, 0, 0);
        nowhere.tool(1, 1, 0, 0);
        nowhere.needs(0, 1);
        nowhere.needs(1, 0);
        same("a tool that runs nowhere is on no way", nowhere.ring(0), NONE);
    }

    public static void main(String[] args) {
        promise = "promise 1";
        newObject();
        promise = "promise 2";
        platforms();
        promise = "promise 3";
        tools();
        promise = "promise 4";
        ordering();
        promise = "promise 5";
        needing();
        promise = "promise 6";
        asking();
        promise = "promise 7";
        dropping();
        promise = "promise 8";
        forcing();
        promise = "promise 9";
        choosing();
        leastWhyCounts();
        promise = "promise 10";
        chosenTools();
        promise = "promises 11 and 12";
        rowsAndRow();
        promise = "promise 13";
        building();
        promise = "promise 14";
        rings();
        System.out.println(wrong == 0 ? "all answers are as due" : wrong + " answers are not as due");
        if (wrong != 0) {
            System.exit(1);
        }
    }
}
