import java.util.Arrays;

/** Breaks a paragraph of boxes, glue and penalties into lines with the least sum of demerits. */
public final class OptimalLines {
    public static final int NONE = -1;

    private static final int MOST_ITEMS = 400;
    private static final int MOST_SIZE = 100_000;
    private static final int MOST_FILL = 100;
    private static final int MOST_COST = 10_000;
    private static final int FORCING_COST = -10_000;
    private static final int WORST_BADNESS = 10_000;

    /** Feasible ways have at most so many lines; the width kept behind them is that of all further lines. */
    private static final int MOST_LINES = 40;
    private static final int MOST_LINE_WIDTH = 1_000_000;
    private static final int FIRST_LINE_WIDTH = 1000;

    private static final int LINE_PENALTY = 0;
    private static final int DOUBLE_DEMERITS = 1;
    private static final int FINAL_DEMERITS = 2;
    private static final int ADJACENT_DEMERITS = 3;
    private static final int PRETOLERANCE = 4;
    private static final int TOLERANCE = 5;
    private static final int EMERGENCY_STRETCH = 6;
    private static final int LOOSENESS = 7;
    private static final int SETTINGS = 8;
    private static final int[] SETTING_AT_FIRST = {10, 10_000, 5000, 10_000, 100, 200, 0, 0};
    private static final int[] SETTING_LEAST = {0, 0, 0, 0, -1, -1, 0, -20};
    private static final int[] SETTING_MOST = {1000, 100_000, 100_000, 100_000, 10_000, 10_000, 100_000, 20};

    private static final int EMERGENCY_PASS = 4;

    private final Items items;
    private final int[] lineWidths;
    private final int[] settings;
    private final Breaks breaks;
    private final Ruler ruler;
    private final Search search;
    private final Layout layout;

    /** All rows are made here, some 25,000 elements, so that no later call makes any. */
    public OptimalLines() {
        items = new Items();
        lineWidths = new int[MOST_LINES + 1];
        Arrays.fill(lineWidths, FIRST_LINE_WIDTH);
        settings = Arrays.copyOf(SETTING_AT_FIRST, SETTINGS);
        breaks = new Breaks(items);
        ruler = new Ruler(items);
        search = new Search(breaks, ruler, lineWidths, settings);
        layout = new Layout();
    }

    public int box(int width) throws IllegalArgumentException, IllegalStateException {
        requireSize(width);
        requireRoom();
        layout.known = false;
        return items.addBox(width);
    }

    public int glue(int width, int stretch, int shrink, int fill)
            throws IllegalArgumentException, IllegalStateException {
        requireSize(width);
        requireSize(stretch);
        requireSize(shrink);
        requireWithin(fill, 0, MOST_FILL);
        requireRoom();
        layout.known = false;
        return items.addGlue(width, stretch, shrink, fill);
    }

    public int penalty(int width, int cost, boolean flagged)
            throws IllegalArgumentException, IllegalStateException {
        requireSize(width);
        requireWithin(cost, FORCING_COST, MOST_COST);
        requireRoom();
        layout.known = false;
        return items.addPenalty(width, cost, flagged);
    }

    public int clear() {
        layout.known = false;
        return items.removeAll();
    }

    public void width(int line, int width) throws IllegalArgumentException {
        requireWithin(line, 0, MOST_LINES);
        requireWithin(width, 1, MOST_LINE_WIDTH);
        layout.known = false;
        for (int k = line; k <= MOST_LINES; k++) {
            lineWidths[k] = width;
        }
    }

    public int setting(int what, int v) throws IllegalArgumentException {
        requireWithin(what, 0, SETTINGS - 1);
        requireWithin(v, SETTING_LEAST[what], SETTING_MOST[what]);
        layout.known = false;
        int before = settings[what];
        settings[what] = v;
        return before;
    }

    public int breakUp() throws IllegalStateException {
        if (items.count == 0) {
            throw new IllegalStateException("there are no items");
        }
        if (!passIsTaken(1) && !passIsTaken(2) && !passIsTaken(3)) {
            breakInEmergency();
        }
        layout.known = true;
        return layout.lines;
    }

    public int pass() throws IllegalStateException {
        requireLines();
        return layout.passTaken;
    }

    public long demerits() throws IllegalStateException {
        requireLines();
        return layout.demeritSum;
    }

    public int line(int k, int what) throws IllegalStateException, IndexOutOfBoundsException {
        requireLines();
        requireIndex(k, layout.lines);
        requireIndex(what, 5);
        measureLine(k);
        int badness = ruler.badness(layout.extraStretch);
        switch (what) {
            case 0:
                return layout.starts[k];
            case 1:
                return layout.ends[k];
            case 2:
                return ruler.excess;
            case 3:
                return badness;
            default:
                return ruler.fitness(badness);
        }
    }

    public int over() throws IllegalStateException {
        requireLines();
        int tooLong = 0;
        for (int k = 0; k < layout.lines; k++) {
            measureLine(k);
            if (ruler.isTooLong()) {
                tooLong++;
            }
        }
        return tooLong;
    }

    public int lineOf(int item) throws IllegalStateException, IndexOutOfBoundsException {
        requireLines();
        requireIndex(item, items.count);
        return layout.lineWith(item);
    }

    public int place(int item) throws IllegalStateException, IndexOutOfBoundsException {
        requireLines();
        requireIndex(item, items.count);
        int k = layout.lineWith(item);
        if (k == NONE) {
            return NONE;
        }
        measureLine(k);
        return ruler.placeOf(item);
    }

    private static void requireWithin(int value, int least, int most) {
        if (value < least || value > most) {
            throw new IllegalArgumentException("a value is out of bounds");
        }
    }

    private static void requireSize(int size) {
        requireWithin(size, 0, MOST_SIZE);
    }

    private static void requireIndex(int index, int count) {
        if (index < 0 || index >= count) {
            throw new IndexOutOfBoundsException("there is no such line, item or number of what is asked");
        }
    }

    private void requireRoom() {
        if (items.count >= MOST_ITEMS) {
            throw new IllegalStateException("there are 400 items");
        }
    }

    private void requireLines() {
        if (!layout.known) {
            throw new IllegalStateException("nothing was broken since the last change");
        }
    }

    private static int widthOfLine(int[] lineWidths, int k) {
        return lineWidths[Math.min(k, MOST_LINES)];
    }

    private void measureLine(int k) {
        ruler.measure(layout.starts[k], layout.ends[k], widthOfLine(lineWidths, k));
    }

    private boolean passIsTaken(int number) {
        int extraStretch = number == 3 ? settings[EMERGENCY_STRETCH] : 0;
        if (number == 3 && extraStretch == 0) {
            return false;
        }
        breaks.collect(number > 1);
        search.run(settings[number == 1 ? PRETOLERANCE : TOLERANCE], extraStretch);
        int lines = search.linesToTake(settings[LOOSENESS]);
        if (lines == 0) {
            return false;
        }
        search.writeWay(lines, layout);
        layout.passTaken = number;
        layout.extraStretch = extraStretch;
        return true;
    }

    private void breakInEmergency() {
        breaks.collect(true);
        layout.lines = 0;
        layout.passTaken = EMERGENCY_PASS;
        layout.demeritSum = 0;
        layout.extraStretch = 0;
        int from = 0;
        for (int k = 0; k <= MOST_ITEMS && from < breaks.last; k++) {
            int to = emergencyBreak(from, k);
            layout.starts[k] = breaks.lineStart(from, to);
            layout.ends[k] = breaks.at[to];
            layout.lines = k + 1;
            from = to;
        }
    }

    private int emergencyBreak(int from, int k) {
        int chosen = from + 1;
        for (int to = from + 1; to <= breaks.farthest[from]; to++) {
            ruler.measure(breaks.lineStart(from, to), breaks.at[to], widthOfLine(lineWidths, k));
            if (!ruler.isTooLong()) {
                chosen = to;
            }
        }
        return chosen;
    }

    /** The items; glue is kept as sums alone, since only sums over lines are ever asked for. */
    private static final class Items {
        static final int BOX = 0;
        static final int GLUE = 1;
        static final int PENALTY = 2;

        int count;
        final int[] kinds = new int[MOST_ITEMS];
        final int[] penaltyWidths = new int[MOST_ITEMS];
        final int[] costs = new int[MOST_ITEMS];
        final boolean[] flags = new boolean[MOST_ITEMS];
        final int[] widthBefore = new int[MOST_ITEMS + 1];
        final int[] stretchBefore = new int[MOST_ITEMS + 1];
        final int[] shrinkBefore = new int[MOST_ITEMS + 1];
        final int[] fillBefore = new int[MOST_ITEMS + 1];

        int addBox(int width) {
            describe(BOX, 0, 0, false);
            return append(width, 0, 0, 0);
        }

        int addGlue(int width, int stretch, int shrink, int fill) {
            describe(GLUE, 0, 0, false);
            return append(width, stretch, shrink, fill);
        }

        int addPenalty(int width, int cost, boolean flagged) {
            describe(PENALTY, width, cost, flagged);
            return append(0, 0, 0, 0);
        }

        int removeAll() {
            int before = count;
            count = 0;
            return before;
        }

        boolean isBreak(int i, boolean flaggedToo) {
            if (i == count) {
                return true;
            }
            if (kinds[i] == GLUE) {
                return i > 0 && kinds[i - 1] == BOX;
            }
            return kinds[i] == PENALTY && costs[i] < MOST_COST && (flaggedToo || !flags[i]);
        }

        int breakWidth(int i) {
            return i == count ? 0 : penaltyWidths[i];
        }

        int breakCost(int i) {
            return i == count ? FORCING_COST : costs[i];
        }

        boolean isFlagged(int i) {
            return i >= 0 && i < count && flags[i];
        }

        private void describe(int kind, int penaltyWidth, int cost, boolean flagged) {
            kinds[count] = kind;
            penaltyWidths[count] = penaltyWidth;
            costs[count] = cost;
            flags[count] = flagged;
        }

        private int append(int width, int stretch, int shrink, int fill) {
            int i = count;
            widthBefore[i + 1] = widthBefore[i] + width;
            stretchBefore[i + 1] = stretchBefore[i] + stretch;
            shrinkBefore[i + 1] = shrinkBefore[i] + shrink;
            fillBefore[i + 1] = fillBefore[i] + fill;
            count = i + 1;
            return i;
        }
    }

    /** The breaks of a pass in their order; number 0 is the start of the paragraph, the last one the END. */
    private static final class Breaks {
        static final int START = -1;
        static final int MOST = MOST_ITEMS + 2;

        final Items items;
        int last;
        final int[] at = new int[MOST];
        /** The first item that a line from this break can have. */
        final int[] heads = new int[MOST];
        /** The last break that a line from this one can reach without passing a forced one. */
        final int[] farthest = new int[MOST];
        /** The least that a line to this break or one behind it can shrink to, counted from item 0. */
        private final int[] leastReach = new int[MOST];

        Breaks(Items items) {
            this.items = items;
        }

        void collect(boolean flaggedToo) {
            at[0] = START;
            last = 0;
            for (int i = 0; i <= items.count; i++) {
                if (items.isBreak(i, flaggedToo)) {
                    last++;
                    at[last] = i;
                }
            }
            findHeads();
            findReaches();
        }

        int lineStart(int from, int to) {
            return Math.min(heads[from], at[to]);
        }

        /** Whether a line from item start is too long at the break and at every one behind it. */
        boolean isOutOfReach(int number, int start, int lineWidth) {
            return leastReach[number] - shrunkBefore(start) > lineWidth;
        }

        private int shrunkBefore(int i) {
            return items.widthBefore[i] - items.shrinkBefore[i];
        }

        private void findHeads() {
            int head = items.count;
            int number = last;
            for (int i = items.count; i >= 0; i--) {
                if (at[number] == i) {
                    heads[number] = head;
                    number--;
                }
                if (i < items.count && items.kinds[i] == Items.BOX) {
                    head = i;
                }
            }
            heads[0] = 0;
        }

        private void findReaches() {
            farthest[last] = last;
            leastReach[last] = shrunkBefore(at[last]);
            for (int k = last - 1; k >= 0; k--) {
                boolean nextForces = items.breakCost(at[k + 1]) <= FORCING_COST;
                farthest[k] = nextForces ? k + 1 : farthest[k + 1];
                leastReach[k] = leastReach[k + 1];
                if (k > 0) {
                    leastReach[k] = Math.min(leastReach[k], shrunkBefore(at[k]) + items.breakWidth(at[k]));
                }
            }
        }
    }

    /** Measures one line at a time. */
    private static final class Ruler {
        private final Items items;
        private int start;
        private int stretch;
        private int shrink;
        private int fill;
        int excess;

        Ruler(Items items) {
            this.items = items;
        }

        void measure(int from, int end, int lineWidth) {
            start = from;
            excess = lineWidth - (items.widthBefore[end] - items.widthBefore[from]) - items.breakWidth(end);
            stretch = items.stretchBefore[end] - items.stretchBefore[from];
            shrink = items.shrinkBefore[end] - items.shrinkBefore[from];
            fill = items.fillBefore[end] - items.fillBefore[from];
        }

        boolean isTooLong() {
            return -excess > shrink;
        }

        int badness(int extraStretch) {
            if (excess == 0 || excess > 0 && fill > 0) {
                return 0;
            }
            if (excess > 0) {
                return badnessOf(excess, stretch + extraStretch);
            }
            return isTooLong() ? WORST_BADNESS : badnessOf(-excess, shrink);
        }

        int fitness(int badness) {
            if (excess < 0) {
                return badness > 12 ? 3 : 2;
            }
            if (badness <= 12) {
                return 2;
            }
            return badness <= 99 ? 1 : 0;
        }

        int placeOf(int item) {
            return items.widthBefore[item] - items.widthBefore[start] + partBefore(item);
        }

        private int partBefore(int item) {
            if (excess > 0 && fill > 0) {
                return share(excess, items.fillBefore[item] - items.fillBefore[start], fill);
            }
            if (excess > 0) {
                return share(excess, items.stretchBefore[item] - items.stretchBefore[start], stretch);
            }
            return -share(Math.min(-excess, shrink), items.shrinkBefore[item] - items.shrinkBefore[start], shrink);
        }

        private static int share(int amount, int part, int whole) {
            return whole <= 0 ? 0 : (int) ((long) amount * part / whole);
        }

        private static int badnessOf(int amount, int give) {
            if (give <= 0) {
                return WORST_BADNESS;
            }
            long ratio = amount * 297L / give;
            return ratio > 1290 ? WORST_BADNESS : (int) ((ratio * ratio * ratio + 131_072) / 262_144);
        }
    }

    /** Where the lines of the last breaking begin and end. */
    private static final class Layout {
        boolean known;
        int lines;
        int passTaken;
        int extraStretch;
        long demeritSum;
        final int[] starts = new int[MOST_ITEMS + 1];
        final int[] ends = new int[MOST_ITEMS + 1];

        int lineWith(int item) {
            for (int k = 0; k < lines; k++) {
                if (item >= starts[k] && item < ends[k]) {
                    return k;
                }
            }
            return NONE;
        }
    }

    /**
     * From which break, and from a line of which fitness, each best way comes.
     * The four fitnesses of a break share one long, which keeps the object small.
     */
    private static final class Trail {
        private static final int BITS = 16;
        private static final long MASK = 0xFFFF;

        private final long[] roots = new long[MOST_LINES * Breaks.MOST];

        void keep(int line, int number, int fitness, int root) {
            int slot = line * Breaks.MOST + number;
            int shift = BITS * fitness;
            roots[slot] = roots[slot] & ~(MASK << shift) | (long) root << shift;
        }

        int root(int line, int number, int fitness) {
            return (int) (roots[line * Breaks.MOST + number] >>> BITS * fitness & MASK);
        }
    }

    /**
     * Finds, line after line, the best way to each break by the number of its lines and the fitness of its last.
     * A state is the number of a break times 4 and a fitness; ties fall to the way that comes from the lesser break.
     */
    private static final class Search {
        private static final int FITNESSES = 4;
        private static final int FITNESS_AT_START = 2;
        private static final long NEVER = Long.MAX_VALUE;

        private final Breaks breaks;
        private final Ruler ruler;
        private final int[] lineWidths;
        private final int[] settings;
        private final Trail trail = new Trail();
        private long[] sums = new long[Breaks.MOST * FITNESSES];
        private long[] nextSums = new long[Breaks.MOST * FITNESSES];
        /** For each fitness of the next line: the least sum before it, and the fitness of the line before it. */
        private final long[] entrySums = new long[FITNESSES];
        private final int[] entryFitnesses = new int[FITNESSES];
        /** By the number of lines: the least sum of a way to the END, and the fitness of its last line. */
        private final long[] endSums = new long[MOST_LINES + 1];
        private final int[] endFitnesses = new int[MOST_LINES + 1];
        private int tolerance;
        private int extraStretch;

        Search(Breaks breaks, Ruler ruler, int[] lineWidths, int[] settings) {
            this.breaks = breaks;
            this.ruler = ruler;
            this.lineWidths = lineWidths;
            this.settings = settings;
        }

        void run(int toleranceOfPass, int extraStretchOfPass) {
            tolerance = toleranceOfPass;
            extraStretch = extraStretchOfPass;
            Arrays.fill(endSums, NEVER);
            forget(sums);
            sums[FITNESS_AT_START] = 0;
            boolean goesOn = tolerance >= 0;
            for (int line = 0; line < MOST_LINES && goesOn; line++) {
                forget(nextSums);
                goesOn = false;
                for (int from = 0; from < breaks.last; from++) {
                    if (findEntries(line, from)) {
                        goesOn = true;
                        addLinesFrom(line, from);
                    }
                }
                noteEnd(line);
                long[] spare = sums;
                sums = nextSums;
                nextSums = spare;
            }
        }

        /** How many lines the way to take has, 0 if there is no feasible one. */
        int linesToTake(int looseness) {
            int best = 0;
            for (int lines = 1; lines <= MOST_LINES; lines++) {
                if (endSums[lines] != NEVER && (best == 0 || endSums[lines] < endSums[best])) {
                    best = lines;
                }
            }
            int wish = best + looseness;
            int nearest = best;
            for (int lines = MOST_LINES; lines >= 1; lines--) {
                if (best != 0 && endSums[lines] != NEVER && isNearer(lines, nearest, wish)) {
                    nearest = lines;
                }
            }
            return nearest;
        }

        void writeWay(int lines, Layout layout) {
            layout.lines = lines;
            layout.demeritSum = endSums[lines];
            int to = breaks.last;
            int fitness = endFitnesses[lines];
            for (int k = lines - 1; k >= 0; k--) {
                int root = trail.root(k, to, fitness);
                int from = root / FITNESSES;
                layout.starts[k] = breaks.lineStart(from, to);
                layout.ends[k] = breaks.at[to];
                to = from;
                fitness = root % FITNESSES;
            }
        }

        /** Stops behind the END, since short paragraphs are many and the row is long. */
        private void forget(long[] row) {
            for (int state = 0; state < (breaks.last + 1) * FITNESSES; state++) {
                row[state] = NEVER;
            }
        }

        private static boolean isNearer(int lines, int other, int wish) {
            int distance = Math.abs(lines - wish);
            int otherDistance = Math.abs(other - wish);
            return distance < otherDistance || distance == otherDistance && lines < other;
        }

        /** Whether some way of so many lines ends at the break, so that one more may follow. */
        private boolean findEntries(int line, int from) {
            boolean some = false;
            for (int before = 0; before < FITNESSES; before++) {
                if (sums[from * FITNESSES + before] != NEVER) {
                    if (!some) {
                        Arrays.fill(entrySums, NEVER);
                    }
                    some = true;
                    offerEntries(line, from, before);
                }
            }
            return some;
        }

        private void offerEntries(int line, int from, int before) {
            for (int fitness = 0; fitness < FITNESSES; fitness++) {
                boolean isAdjacent = Math.abs(fitness - before) <= 1;
                long sum = sums[from * FITNESSES + before] + (isAdjacent ? 0 : settings[ADJACENT_DEMERITS]);
                if (sum < entrySums[fitness]
                        || sum == entrySums[fitness] && comesEarlier(line - 1, from, before, entryFitnesses[fitness])) {
                    entrySums[fitness] = sum;
                    entryFitnesses[fitness] = before;
                }
            }
        }

        /** Ways to one break that differ in the last line's fitness differ in the break before it. */
        private boolean comesEarlier(int line, int number, int fitness, int otherFitness) {
            return line >= 0 && trail.root(line, number, fitness) < trail.root(line, number, otherFitness);
        }

        private void addLinesFrom(int line, int from) {
            int lineWidth = lineWidths[line];
            for (int to = from + 1; to <= breaks.farthest[from]; to++) {
                int start = breaks.lineStart(from, to);
                int end = breaks.at[to];
                if (start < end && breaks.isOutOfReach(to, start, lineWidth)) {
                    break;
                }
                ruler.measure(start, end, lineWidth);
                if (!ruler.isTooLong()) {
                    offerLine(line, from, to);
                }
            }
        }

        private void offerLine(int line, int from, int to) {
            int badness = ruler.badness(extraStretch);
            if (badness > tolerance) {
                return;
            }
            int fitness = ruler.fitness(badness);
            long sum = entrySums[fitness] + demeritsAlone(badness, breaks.items.breakCost(breaks.at[to]))
                    + demeritsOfFlags(from, to);
            int state = to * FITNESSES + fitness;
            if (sum < nextSums[state]) {
                nextSums[state] = sum;
                trail.keep(line, to, fitness, from * FITNESSES + entryFitnesses[fitness]);
            }
        }

        private long demeritsAlone(int badness, int cost) {
            long base = settings[LINE_PENALTY] + badness;
            long square = (long) cost * cost;
            if (cost >= 0) {
                return base * base + square;
            }
            return cost > FORCING_COST ? base * base - square : base * base;
        }

        private int demeritsOfFlags(int from, int to) {
            if (!breaks.items.isFlagged(breaks.at[from])) {
                return 0;
            }
            if (to == breaks.last) {
                return settings[FINAL_DEMERITS];
            }
            return breaks.items.isFlagged(breaks.at[to]) ? settings[DOUBLE_DEMERITS] : 0;
        }

        private void noteEnd(int line) {
            int lines = line + 1;
            for (int fitness = 0; fitness < FITNESSES; fitness++) {
                long sum = nextSums[breaks.last * FITNESSES + fitness];
                if (sum < endSums[lines] || sum != NEVER && sum == endSums[lines]
                        && comesEarlier(line, breaks.last, fitness, endFitnesses[lines])) {
                    endSums[lines] = sum;
                    endFitnesses[lines] = fitness;
                }
            }
        }
    }
}
