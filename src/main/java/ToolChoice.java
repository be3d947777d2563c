import java.util.Arrays;

/** Chooses the platform that a rule's tools run on, and the tool of each kind asked for. */
public final class ToolChoice {
    public static final int NONE = -1;

    private static final int MAX_PLATFORMS = 6;
    private static final int MAX_TOOLS = 24;
    private static final int MAX_NEEDS = 40;
    private static final int KINDS = 8;
    private static final int CONSTRAINTS = 32;
    // On one platform a tool is looked at once at most, as its kind is asked once at most.
    private static final int MAX_ROWS = MAX_PLATFORMS * MAX_TOOLS;

    private static final int GOOD = 0;
    private static final int FORCED_TO_ANOTHER = 1;
    private static final int VERSION_TOO_LOW = 2;
    private static final int CANNOT_RUN = 3;
    private static final int CANNOT_MAKE = 4;
    private static final int NOT_BUILT = 5;

    private final int[] platformHas = new int[MAX_PLATFORMS];
    private int platformCount = 0;

    private final int[] toolKind = new int[MAX_TOOLS];
    private final int[] runsWants = new int[MAX_TOOLS];
    private final int[] makesWants = new int[MAX_TOOLS];
    private final int[] toolVersion = new int[MAX_TOOLS];
    private final int[] neededKinds = new int[MAX_TOOLS];
    private final int[] toolAtPlace = new int[MAX_TOOLS];
    private int toolCount = 0;
    private int needCount = 0;

    private final AskedKinds asked = new AskedKinds();
    private final int[] forcedTool = new int[KINDS];
    private final int[] takenTool = new int[KINDS];
    private final RowList told = new RowList();

    // Worked out anew by each call that wants them, kept here only so that no call makes arrays.
    private final int[] runsOn = new int[MAX_TOOLS];
    private final int[] makesFor = new int[MAX_TOOLS];
    private final int[] builtOn = new int[MAX_TOOLS];
    private final int[] suppliedFor = new int[KINDS];
    private final int[] leadsTo = new int[MAX_TOOLS];

    public ToolChoice() {
        Arrays.fill(forcedTool, NONE);
        Arrays.fill(takenTool, NONE);
    }

    public int platform(int constraints) {
        if (platformCount >= MAX_PLATFORMS) {
            return NONE;
        }
        platformHas[platformCount] = constraints;
        platformCount++;
        return platformCount - 1;
    }

    public int tool(int kind, int runs, int makes, int version) {
        if (toolCount >= MAX_TOOLS || !isKind(kind)) {
            return NONE;
        }
        int tool = toolCount;
        toolKind[tool] = kind;
        runsWants[tool] = runs;
        makesWants[tool] = makes;
        toolVersion[tool] = version;
        toolAtPlace[tool] = tool;
        toolCount++;
        return tool;
    }

    public boolean order(int tool, int place) {
        if (!isTool(tool) || place < 0 || place >= toolCount) {
            return false;
        }
        int from = placeOf(tool);
        for (int at = from; at < place; at++) {
            toolAtPlace[at] = toolAtPlace[at + 1];
        }
        for (int at = from; at > place; at--) {
            toolAtPlace[at] = toolAtPlace[at - 1];
        }
        toolAtPlace[place] = tool;
        return true;
    }

    public boolean needs(int tool, int kind) {
        if (!isTool(tool) || !isKind(kind)) {
            return false;
        }
        if (hasBit(neededKinds[tool], kind) || needCount >= MAX_NEEDS) {
            return false;
        }
        neededKinds[tool] |= 1 << kind;
        needCount++;
        return true;
    }

    public boolean ask(int kind, int version, boolean needed) {
        if (!isKind(kind)) {
            return false;
        }
        asked.put(kind, version, needed);
        return true;
    }

    public boolean drop(int kind) {
        return isKind(kind) && asked.remove(kind);
    }

    public boolean force(int tool, int kind) {
        if (tool == NONE && isKind(kind)) {
            forcedTool[kind] = NONE;
            return true;
        }
        if (!isTool(tool)) {
            return false;
        }
        forcedTool[toolKind[tool]] = tool;
        return true;
    }

    public int choose(int platform) {
        if (!isPlatform(platform)) {
            return NONE;
        }
        settleBuilt();
        told.clear();
        for (int host = 0; host < platformCount; host++) {
            if (takeTools(host, platform)) {
                return host;
            }
        }
        // What the last platform had before a needed kind lacked a tool was not chosen.
        Arrays.fill(takenTool, NONE);
        return NONE;
    }

    public int chosen(int kind) {
        return isKind(kind) ? takenTool[kind] : NONE;
    }

    public int rows() {
        return told.size();
    }

    public int row(int i, int what) {
        return told.cell(i, what);
    }

    public boolean built(int tool, int platform) {
        if (!isTool(tool) || !isPlatform(platform)) {
            return false;
        }
        settleBuilt();
        return hasBit(builtOn[tool], platform);
    }

    public int ring(int i) {
        settleBuilt();
        settleLeads();
        int before = 0;
        for (int tool = 0; tool < toolCount; tool++) {
            if (hasBit(leadsTo[tool], tool)) {
                if (before == i) {
                    return tool;
                }
                before++;
            }
        }
        return NONE;
    }

    private boolean isPlatform(int platform) {
        return platform >= 0 && platform < platformCount;
    }

    private boolean isTool(int tool) {
        return tool >= 0 && tool < toolCount;
    }

    private static boolean isKind(int kind) {
        return kind >= 0 && kind < KINDS;
    }

    private static boolean hasBit(int bits, int bit) {
        return (bits >>> bit & 1) != 0;
    }

    private static int lowestBit(int bits) {
        for (int bit = 0; bit < CONSTRAINTS; bit++) {
            if (hasBit(bits, bit)) {
                return bit;
            }
        }
        return NONE;
    }

    private int placeOf(int tool) {
        int place = 0;
        while (place < toolCount - 1 && toolAtPlace[place] != tool) {
            place++;
        }
        return place;
    }

    /** Takes a tool of each kind asked; false as soon as a needed kind has none. */
    private boolean takeTools(int host, int target) {
        Arrays.fill(takenTool, NONE);
        for (int at = 0; at < asked.size(); at++) {
            int kind = asked.kindAt(at);
            takenTool[kind] = firstGood(kind, host, target);
            if (takenTool[kind] == NONE && asked.isNeeded(kind)) {
                return false;
            }
        }
        return true;
    }

    private int firstGood(int kind, int host, int target) {
        for (int place = 0; place < toolCount; place++) {
            int tool = toolAtPlace[place];
            if (toolKind[tool] == kind) {
                int why = whyNot(tool, host, target);
                told.add(host, tool, why, lackOf(why, tool, host, target));
                if (why == GOOD) {
                    return tool;
                }
            }
        }
        return NONE;
    }

    private int whyNot(int tool, int host, int target) {
        int kind = toolKind[tool];
        if (forcedTool[kind] != NONE && forcedTool[kind] != tool) {
            return FORCED_TO_ANOTHER;
        }
        if (toolVersion[tool] < asked.leastVersion(kind)) {
            return VERSION_TOO_LOW;
        }
        if (!hasBit(runsOn[tool], host)) {
            return CANNOT_RUN;
        }
        if (!hasBit(makesFor[tool], target)) {
            return CANNOT_MAKE;
        }
        return hasBit(builtOn[tool], host) ? GOOD : NOT_BUILT;
    }

    private int lackOf(int why, int tool, int host, int target) {
        switch (why) {
            case CANNOT_RUN:
                return lowestBit(runsWants[tool] & ~platformHas[host]);
            case CANNOT_MAKE:
                return lowestBit(makesWants[tool] & ~platformHas[target]);
            case NOT_BUILT:
                return lowestUnsupplied(tool, host);
            default:
                return NONE;
        }
    }

    private int lowestUnsupplied(int tool, int host) {
        for (int kind = 0; kind < KINDS; kind++) {
            if (hasBit(neededKinds[tool], kind) && !hasBit(suppliedFor[kind], host)) {
                return kind;
            }
        }
        return NONE;
    }

    private int platformsHaving(int wanted) {
        int found = 0;
        for (int platform = 0; platform < platformCount; platform++) {
            if ((wanted & ~platformHas[platform]) == 0) {
                found |= 1 << platform;
            }
        }
        return found;
    }

    /**
     * Works out builtOn and suppliedFor as the least ones: begun with nothing and only grown, so
     * that a tool which is needed only by itself stays unbuilt.
     */
    private void settleBuilt() {
        for (int tool = 0; tool < toolCount; tool++) {
            runsOn[tool] = platformsHaving(runsWants[tool]);
            makesFor[tool] = platformsHaving(makesWants[tool]);
            builtOn[tool] = 0;
        }
        Arrays.fill(suppliedFor, 0);
        // Supplies grow only when a tool is built for the first time, so in toolCount passes at
        // most, and one pass more sees the last of them.
        boolean grown = true;
        for (int pass = 0; pass <= toolCount && grown; pass++) {
            grown = growBuilt();
        }
    }

    private boolean growBuilt() {
        boolean grown = false;
        for (int tool = 0; tool < toolCount; tool++) {
            int platforms = platformsWithSupplies(tool);
            if (platforms != builtOn[tool]) {
                builtOn[tool] = platforms;
                suppliedFor[toolKind[tool]] |= makesFor[tool];
                grown = true;
            }
        }
        return grown;
    }

    private int platformsWithSupplies(int tool) {
        int platforms = runsOn[tool];
        for (int kind = 0; kind < KINDS; kind++) {
            if (hasBit(neededKinds[tool], kind)) {
                platforms &= suppliedFor[kind];
            }
        }
        return platforms;
    }

    /**
     * Works out which tools each tool leads to by unbuilt ones. Tools alone are enough: a step to
     * a tool may end on any platform that it runs on, so also on the one that the next step wants.
     */
    private void settleLeads() {
        for (int tool = 0; tool < toolCount; tool++) {
            leadsTo[tool] = stepsFrom(tool);
        }
        for (int middle = 0; middle < toolCount; middle++) {
            for (int tool = 0; tool < toolCount; tool++) {
                if (hasBit(leadsTo[tool], middle)) {
                    leadsTo[tool] |= leadsTo[middle];
                }
            }
        }
    }

    private int stepsFrom(int tool) {
        int steps = 0;
        for (int next = 0; next < toolCount; next++) {
            boolean needed = hasBit(neededKinds[tool], toolKind[next]);
            boolean makes = (makesFor[next] & unbuiltOn(tool)) != 0;
            if (needed && makes && unbuiltOn(next) != 0) {
                steps |= 1 << next;
            }
        }
        return steps;
    }

    private int unbuiltOn(int tool) {
        return runsOn[tool] & ~builtOn[tool];
    }

    /** The kinds asked, in the order in which they were asked first. */
    private static final class AskedKinds {
        private final int[] kinds = new int[KINDS];
        private final int[] versions = new int[KINDS];
        private final boolean[] needed = new boolean[KINDS];
        private int count = 0;

        private int size() {
            return count;
        }

        private int kindAt(int at) {
            return kinds[at];
        }

        private int leastVersion(int kind) {
            return versions[kind];
        }

        private boolean isNeeded(int kind) {
            return needed[kind];
        }

        private int find(int kind) {
            for (int at = 0; at < count; at++) {
                if (kinds[at] == kind) {
                    return at;
                }
            }
            return NONE;
        }

        private void put(int kind, int version, boolean must) {
            if (find(kind) == NONE && count < KINDS) {
                kinds[count] = kind;
                count++;
            }
            versions[kind] = version;
            needed[kind] = must;
        }

        private boolean remove(int kind) {
            int found = find(kind);
            if (found == NONE) {
                return false;
            }
            count--;
            for (int at = found; at < count; at++) {
                kinds[at] = kinds[at + 1];
            }
            return true;
        }
    }

    /** The rows of the latest choosing, one behind the other in one array. */
    private static final class RowList {
        private static final int WIDTH = 4;

        private final int[] cells = new int[MAX_ROWS * WIDTH];
        private int count = 0;

        private void clear() {
            count = 0;
        }

        private int size() {
            return count;
        }

        private void add(int host, int tool, int why, int lack) {
            if (count >= MAX_ROWS) {
                return;
            }
            int start = count * WIDTH;
            cells[start] = host;
            cells[start + 1] = tool;
            cells[start + 2] = why;
            cells[start + 3] = lack;
            count++;
        }

        private int cell(int i, int what) {
            if (i < 0 || i >= count || what < 0 || what >= WIDTH) {
                return NONE;
            }
            return cells[i * WIDTH + what];
        }
    }
}
