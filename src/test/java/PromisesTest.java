/** Each promise of the document: ordinary inputs, the edges it names, and wrong inputs; answers reckoned by hand. */
public final class PromisesTest {
    private static final int[] FAR = {Integer.MIN_VALUE, -1, Integer.MAX_VALUE};

    private PromisesTest() {
    }

    public static void main(String[] args) {
        promise1NewObject();
        promise2Box();
        promise3Glue();
        promise4Penalty();
        promise4Breaks();
        promise5Clear();
        promise6Width();
        promise7Setting();
        promise8Passes();
        promise8Looseness();
        promise8Ties();
        promise8TieAtTheEnd();
        promise8Limit();
        promise8Emergency();
        promise9Pass();
        promise10Demerits();
        promise11Line();
        promise11Badness();
        promise12Over();
        promise13LineOf();
        promise14Place();
        staleLines();
        failedCallsChangeNothing();
        Check.finish("PromisesTest");
    }

    private static void promise1NewObject() {
        OptimalLines x = new OptimalLines();
        int[] due = {10, 10000, 5000, 10000, 100, 200, 0, 0};
        for (int what = 0; what < due.length; what++) {
            int of = what;
            Check.answers("1: setting " + of, () -> x.setting(of, 0), due[of]);
        }
        Check.fails("1: nothing to break", x::breakUp, Check.STATE);
        Check.answers("1: no items", x::clear, 0);
        OptimalLines y = forcedLines(45);
        y.breakUp();
        Check.answers("1: width of line 0", () -> y.line(0, 2), 1000);
        Check.answers("1: width of line 44", () -> y.line(44, 2), 1000);
    }

    private static void promise2Box() {
        OptimalLines x = new OptimalLines();
        Check.answers("2: least", () -> x.box(0), 0);
        Check.answers("2: most", () -> x.box(100000), 1);
        Check.fails("2: below", () -> x.box(-1), Check.ARGUMENT);
        Check.fails("2: above", () -> x.box(100001), Check.ARGUMENT);
        fill(x, 400);
        Check.fails("2: full", () -> x.box(1), Check.STATE);
        for (int far : FAR) {
            Check.fails("2: argument before state", () -> x.box(far), Check.ARGUMENT);
        }
        Check.answers("2: 400 items", x::clear, 400);
        Check.answers("2: from 0 again", () -> x.box(1), 0);
    }

    private static void promise3Glue() {
        OptimalLines x = new OptimalLines();
        Check.answers("3: least", () -> x.glue(0, 0, 0, 0), 0);
        Check.answers("3: most", () -> x.glue(100000, 100000, 100000, 100), 1);
        for (int off : new int[] {Integer.MIN_VALUE, -1, 100001, Integer.MAX_VALUE}) {
            Check.fails("3: width", () -> x.glue(off, 0, 0, 0), Check.ARGUMENT);
            Check.fails("3: stretch", () -> x.glue(0, off, 0, 0), Check.ARGUMENT);
            Check.fails("3: shrink", () -> x.glue(0, 0, off, 0), Check.ARGUMENT);
            Check.fails("3: fill", () -> x.glue(0, 0, 0, off), Check.ARGUMENT);
        }
        Check.fails("3: fill above", () -> x.glue(0, 0, 0, 101), Check.ARGUMENT);
        fill(x, 400);
        Check.fails("3: full", () -> x.glue(0, 0, 0, 0), Check.STATE);
        Check.fails("3: argument before state", () -> x.glue(0, 0, 0, 101), Check.ARGUMENT);
    }

    private static void promise4Penalty() {
        OptimalLines x = new OptimalLines();
        Check.answers("4: least", () -> x.penalty(0, -10000, false), 0);
        Check.answers("4: most", () -> x.penalty(100000, 10000, true), 1);
        Check.fails("4: width below", () -> x.penalty(-1, 0, false), Check.ARGUMENT);
        Check.fails("4: width above", () -> x.penalty(100001, 0, false), Check.ARGUMENT);
        Check.fails("4: cost below", () -> x.penalty(0, -10001, false), Check.ARGUMENT);
        Check.fails("4: cost above", () -> x.penalty(0, 10001, false), Check.ARGUMENT);
        fill(x, 400);
        Check.fails("4: full", () -> x.penalty(0, 0, false), Check.STATE);
        Check.fails("4: argument before state", () -> x.penalty(0, 10001, false), Check.ARGUMENT);
    }

    private static void promise4Breaks() {
        int[] costs = {9999, 50, 0, -50, -9999, -10000};
        long[] sums = {99980201L, 2700, 200, -2300, -99979801L, 200};
        for (int i = 0; i < costs.length; i++) {
            OptimalLines x = twoBoxes(costs[i]);
            Check.answers("4: break at cost " + costs[i], x::breakUp, 2);
            Check.answers("4: demerits of cost " + costs[i], x::demerits, sums[i]);
        }
        OptimalLines x = twoBoxes(10000);
        Check.answers("4: no break at cost 10000", x::breakUp, 1);
        Check.answers("4: too long then", x::over, 1);
        OptimalLines behind = new OptimalLines();
        behind.box(1000);
        behind.penalty(0, 10000, false);
        behind.glue(0, 0, 0, 0);
        behind.box(1000);
        Check.answers("3: no break at glue behind a penalty", behind::breakUp, 1);
        OptimalLines y = new OptimalLines();
        y.box(900);
        y.penalty(100, 0, false);
        y.box(1000);
        Check.answers("4: the width counts at the end", y::breakUp, 2);
        Check.answers("4: excess with it", () -> y.line(0, 2), 0);
        y.width(0, 1900);
        Check.answers("4: the width doesn't count within", y::breakUp, 1);
        Check.answers("4: excess without it", () -> y.line(0, 2), 0);
    }

    private static void promise5Clear() {
        OptimalLines x = twoBoxes(0);
        x.width(0, 700);
        x.setting(0, 3);
        x.breakUp();
        Check.answers("5: how many", x::clear, 3);
        Check.fails("5: no lines", x::pass, Check.STATE);
        Check.fails("5: nothing to break", x::breakUp, Check.STATE);
        Check.answers("5: none", x::clear, 0);
        Check.answers("5: numbers from 0", () -> x.box(700), 0);
        Check.answers("5: breaks", x::breakUp, 1);
        Check.answers("5: widths stay", () -> x.line(0, 2), 0);
        Check.answers("5: settings stay", x::demerits, 9);
    }

    private static void promise6Width() {
        OptimalLines x = forcedLines(45);
        x.width(0, 1);
        x.width(3, 1000000);
        x.width(40, 77);
        x.breakUp();
        int[] lines = {0, 2, 3, 39, 40, 44};
        int[] due = {1, 1, 1000000, 1000000, 77, 77};
        for (int i = 0; i < lines.length; i++) {
            int k = lines[i];
            Check.answers("6: width of line " + k, () -> x.line(k, 2), due[i]);
        }
        for (int off : new int[] {Integer.MIN_VALUE, -1, 41, Integer.MAX_VALUE}) {
            Check.fails("6: line " + off, () -> told(x, off, 5), Check.ARGUMENT);
        }
        for (int off : new int[] {Integer.MIN_VALUE, -1, 0, 1000001, Integer.MAX_VALUE}) {
            Check.fails("6: width " + off, () -> told(x, 0, off), Check.ARGUMENT);
        }
        Check.answers("6: nothing has changed", () -> x.line(0, 2), 1);
        x.width(2, 5);
        x.breakUp();
        Check.answers("6: before it", () -> x.line(1, 2), 1);
        Check.answers("6: itself", () -> x.line(2, 2), 5);
        Check.answers("6: all behind it", () -> x.line(44, 2), 5);
    }

    private static void promise7Setting() {
        OptimalLines x = new OptimalLines();
        int[] least = {0, 0, 0, 0, -1, -1, 0, -20};
        int[] most = {1000, 100000, 100000, 100000, 10000, 10000, 100000, 20};
        for (int w = 0; w < 8; w++) {
            int what = w;
            x.setting(what, most[what]);
            Check.answers("7: the least of " + what, () -> x.setting(what, least[what]), most[what]);
            Check.fails("7: below for " + what, () -> x.setting(what, least[what] - 1), Check.ARGUMENT);
            Check.fails("7: above for " + what, () -> x.setting(what, most[what] + 1), Check.ARGUMENT);
            Check.answers("7: the most of " + what, () -> x.setting(what, most[what]), least[what]);
        }
        for (int off : new int[] {Integer.MIN_VALUE, -1, 8, Integer.MAX_VALUE}) {
            Check.fails("7: what " + off, () -> x.setting(off, 0), Check.ARGUMENT);
        }
    }

    private static void promise8Passes() {
        OptimalLines x = new OptimalLines();
        Check.fails("8: no items", x::breakUp, Check.STATE);
        x.box(1000);
        x.penalty(0, 0, true);
        x.box(1000);
        Check.answers("8: a flagged break", x::breakUp, 2);
        Check.answers("8: not in the first pass", x::pass, 2);
        x.setting(5, -1);
        Check.answers("8: the second fails at -1", x::breakUp, 2);
        Check.answers("8: and so does the third", x::pass, 4);
        OptimalLines y = loose(296);
        Check.answers("8: pretolerance", y::breakUp, 1);
        Check.answers("8: badness 99 in the first pass", y::pass, 1);
        y.setting(4, 99);
        y.breakUp();
        Check.answers("8: badness at the tolerance", y::pass, 1);
        y.setting(4, 98);
        y.breakUp();
        Check.answers("8: badness above it", y::pass, 2);
        y.setting(4, -1);
        y.setting(5, 98);
        y.setting(6, 1);
        y.breakUp();
        Check.answers("8: with the emergency's stretch", y::pass, 3);
        y.setting(6, 0);
        y.breakUp();
        Check.answers("8: no third pass without it", y::pass, 4);
        OptimalLines z = new OptimalLines();
        z.box(500);
        z.penalty(0, -10000, true);
        z.box(500);
        Check.answers("8: a flagged penalty is no break in the first pass, not even a forced one", z::breakUp, 1);
        Check.answers("8: nor is it dropped", () -> z.lineOf(1), 0);
        z.setting(4, -1);
        z.setting(5, 10000);
        Check.answers("8: it forces one in the second", z::breakUp, 2);
    }

    private static void promise8Looseness() {
        OptimalLines x = oneOrThreeLines();
        int[] wishes = {-20, -1, 0, 1, 2, 3, 20};
        int[] lines = {1, 1, 1, 1, 3, 3, 3};
        for (int i = 0; i < wishes.length; i++) {
            x.setting(7, wishes[i]);
            Check.answers("8: looseness " + wishes[i], x::breakUp, lines[i]);
            Check.answers("8: demerits with it", x::demerits, lines[i] * 100L);
        }
        OptimalLines y = filledParagraph();
        y.setting(7, 1);
        Check.answers("8: a line more", y::breakUp, 2);
        y.setting(7, 2);
        Check.answers("8: as near as can be", y::breakUp, 2);
    }

    private static void promise8Ties() {
        OptimalLines x = filledParagraph();
        Check.answers("8: fewer lines", x::breakUp, 1);
        Check.answers("8: with the same sum", x::demerits, 0);
        x.setting(7, 1);
        x.breakUp();
        Check.answers("8: the lesser last break", () -> x.line(0, 1), 2);
        OptimalLines y = new OptimalLines();
        y.setting(0, 0);
        y.setting(4, 10000);
        y.setting(3, 0);
        for (int i = 0; i < 4; i++) {
            y.penalty(0, 0, false);
        }
        y.setting(7, 2);
        Check.answers("8: three empty lines", y::breakUp, 3);
        Check.answers("8: the last break comes first", () -> y.line(1, 1), 1);
        Check.answers("8: then the one before", () -> y.line(0, 1), 0);
    }

    /** The second line is as bad from item 2, where it shrinks, as from item 4, where it stretches. */
    private static void promise8TieAtTheEnd() {
        OptimalLines x = new OptimalLines();
        x.glue(0, 0, 0, 1);
        x.box(10);
        x.penalty(0, 0, false);
        x.box(298);
        x.penalty(0, 0, false);
        x.box(100);
        x.penalty(0, 10000, false);
        x.glue(0, 297, 297, 0);
        x.box(51);
        x.width(0, 308);
        x.width(1, 300);
        x.setting(7, 1);
        Check.answers("8: two lines", x::breakUp, 2);
        Check.answers("8: badness 0 and 13", x::demerits, 100 + 529);
        Check.answers("8: of last lines of other fitness the lesser break", () -> x.line(0, 1), 2);
        Check.answers("8: a tight one", () -> x.line(1, 4), 3);
    }

    private static void promise8Limit() {
        OptimalLines x = forcedLines(40);
        x.setting(5, 10000);
        Check.answers("8: forty lines", x::breakUp, 40);
        Check.answers("8: are feasible", x::pass, 2);
        OptimalLines y = forcedLines(41);
        y.setting(5, 10000);
        Check.answers("8: forty-one lines", y::breakUp, 41);
        Check.answers("8: are not", y::pass, 4);
        OptimalLines z = forcedLines(401);
        Check.answers("8: the emergency has no limit", z::breakUp, 401);
        Check.answers("8: its last line", () -> z.line(400, 1), 400);
        Check.fails("8: and none behind it", () -> z.line(401, 1), Check.INDEX);
    }

    private static void promise8Emergency() {
        OptimalLines x = new OptimalLines();
        x.box(600);
        x.glue(0, 0, 0, 0);
        x.box(600);
        x.glue(0, 0, 900, 0);
        x.box(100);
        Check.answers("8: a longer line that shrinks more", x::breakUp, 1);
        Check.answers("8: is feasible", x::pass, 1);
        Check.answers("8: badness 4", x::demerits, 196);
        x.setting(4, -1);
        x.setting(5, -1);
        Check.answers("8: and is the emergency's last break", x::breakUp, 1);
        x.width(0, 300);
        Check.answers("8: the first break if all are too long", x::breakUp, 2);
        Check.answers("8: there", () -> x.line(0, 1), 1);
        Check.answers("8: the next line shrinks", () -> x.line(1, 2), -400);
        OptimalLines y = new OptimalLines();
        y.box(100);
        y.penalty(0, -10000, false);
        y.box(100);
        Check.answers("8: no forced break is passed", y::breakUp, 2);
        Check.answers("8: pass", y::pass, 4);
    }

    private static void promise9Pass() {
        OptimalLines x = new OptimalLines();
        Check.fails("9: none yet", x::pass, Check.STATE);
        x.box(500);
        Check.fails("9: not broken", x::pass, Check.STATE);
        x.breakUp();
        Check.answers("9: emergency", x::pass, 4);
        x.setting(6, 1000);
        x.breakUp();
        Check.answers("9: third", x::pass, 3);
        x.setting(5, 10000);
        x.breakUp();
        Check.answers("9: second", x::pass, 2);
        x.setting(4, 10000);
        x.breakUp();
        Check.answers("9: first", x::pass, 1);
    }

    private static void promise10Demerits() {
        OptimalLines x = new OptimalLines();
        Check.fails("10: none yet", x::demerits, Check.STATE);
        for (int i = 0; i < 3; i++) {
            x.box(1000);
            if (i < 2) {
                x.penalty(0, -10000, true);
            }
        }
        Check.answers("10: flagged lines", x::breakUp, 3);
        Check.answers("10: double and final", x::demerits, 300 + 10000 + 5000);
        x.setting(1, 7);
        x.setting(2, 20);
        x.setting(0, 0);
        x.breakUp();
        Check.answers("10: as told", x::demerits, 27);
        OptimalLines y = loose(297);
        y.breakUp();
        Check.answers("10: a loose first line, against fitness 2", y::demerits, 110 * 110 + 10000);
        y.setting(3, 1);
        y.breakUp();
        Check.answers("10: adjacent as told", y::demerits, 12101);
        y.width(0, 296);
        y.breakUp();
        Check.answers("10: fitness 1 is near enough", y::demerits, 109 * 109);
        y.setting(5, -1);
        y.setting(4, -1);
        y.breakUp();
        Check.answers("10: none in the emergency", y::demerits, 0);
        OptimalLines z = twoBoxes(100);
        z.setting(0, 1000);
        z.breakUp();
        Check.answers("10: line penalty", z::demerits, 2 * 1000000 + 10000);
    }

    private static void promise11Line() {
        OptimalLines x = new OptimalLines();
        Check.fails("11: none yet", () -> x.line(-1, 9), Check.STATE);
        x.box(1000);
        x.penalty(0, -10000, false);
        x.penalty(7, -10000, false);
        x.glue(5, 5, 5, 5);
        x.penalty(5, 10000, false);
        x.box(1000);
        Check.answers("11: breaks", x::breakUp, 3);
        int[][] due = {{0, 1, 0, 0, 2}, {2, 2, 993, 10000, 0}, {5, 6, 0, 0, 2}};
        for (int k = 0; k < 3; k++) {
            for (int what = 0; what < 5; what++) {
                int line = k;
                int of = what;
                Check.answers("11: line " + k + " what " + what, () -> x.line(line, of), due[k][what]);
            }
        }
        for (int off : new int[] {Integer.MIN_VALUE, -1, 3, Integer.MAX_VALUE}) {
            Check.fails("11: line " + off, () -> x.line(off, 0), Check.INDEX);
        }
        for (int off : new int[] {Integer.MIN_VALUE, -1, 5, Integer.MAX_VALUE}) {
            Check.fails("11: what " + off, () -> x.line(0, off), Check.INDEX);
        }
        OptimalLines y = new OptimalLines();
        y.penalty(3, 10000, false);
        y.glue(5, 0, 0, 0);
        y.box(10);
        y.breakUp();
        Check.answers("11: the first line has all items", () -> y.line(0, 0), 0);
        Check.answers("11: and their widths", () -> y.line(0, 2), 985);
    }

    private static void promise11Badness() {
        int[] widths = {148, 149, 296, 297, 1290, 1291};
        int[] badness = {12, 13, 99, 100, 8189, 10000};
        int[] fitness = {2, 1, 1, 0, 0, 0};
        for (int i = 0; i < widths.length; i++) {
            OptimalLines x = loose(widths[i]);
            x.breakUp();
            Check.answers("11: badness at excess " + widths[i], () -> x.line(0, 3), badness[i]);
            Check.answers("11: fitness at excess " + widths[i], () -> x.line(0, 4), fitness[i]);
        }
        int[] lacks = {148, 149, 297, 298};
        int[] tightBadness = {12, 13, 100, 10000};
        int[] tightFitness = {2, 3, 3, 3};
        for (int i = 0; i < lacks.length; i++) {
            OptimalLines x = tight(lacks[i]);
            x.breakUp();
            Check.answers("11: badness at excess -" + lacks[i], () -> x.line(0, 3), tightBadness[i]);
            Check.answers("11: fitness at excess -" + lacks[i], () -> x.line(0, 4), tightFitness[i]);
        }
        OptimalLines third = new OptimalLines();
        third.box(500);
        third.setting(6, 1000);
        third.breakUp();
        Check.answers("11: badness in the third pass", () -> third.line(0, 3), 12);
        Check.answers("11: fitness in the third pass", () -> third.line(0, 4), 2);
        third.setting(5, 11);
        third.breakUp();
        Check.answers("11: badness in the emergency", () -> third.line(0, 3), 10000);
        OptimalLines large = new OptimalLines();
        large.width(0, 1000);
        for (int i = 0; i < 150; i++) {
            large.glue(0, 0, 100000, 0);
            large.box(100000);
        }
        Check.answers("11: a line that shrinks by millions", large::breakUp, 1);
        Check.answers("11: its excess", () -> large.line(0, 2), -14999000);
        Check.answers("11: its badness", () -> large.line(0, 3), 99);
        Check.answers("14: its last place", () -> large.place(299), 14900000 - 14999000);
        OptimalLines wide = new OptimalLines();
        wide.glue(0, 0, 0, 1);
        wide.width(0, 1000000);
        wide.breakUp();
        Check.answers("11: fill is never bad", () -> wide.line(0, 3), 0);
        Check.answers("11: nor loose", () -> wide.line(0, 4), 2);
    }

    private static void promise12Over() {
        OptimalLines x = tight(297);
        Check.fails("12: none yet", x::over, Check.STATE);
        x.breakUp();
        Check.answers("12: shrinks all it can", x::over, 0);
        OptimalLines y = tight(298);
        y.setting(5, 10000);
        y.breakUp();
        Check.answers("12: too long", y::over, 1);
        Check.answers("12: never feasible", y::pass, 4);
        OptimalLines z = new OptimalLines();
        for (int i = 0; i < 5; i++) {
            z.box(1000 + i % 2);
            z.glue(0, 0, 0, 0);
        }
        z.breakUp();
        Check.answers("12: some of the lines", z::over, 2);
    }

    private static void promise13LineOf() {
        OptimalLines x = new OptimalLines();
        Check.fails("13: none yet", () -> x.lineOf(-1), Check.STATE);
        x.glue(0, 0, 0, 0);
        x.box(1000);
        x.penalty(0, 10000, true);
        x.glue(0, 0, 0, 0);
        x.penalty(0, -10000, false);
        x.glue(1, 1, 1, 1);
        x.penalty(0, 10000, false);
        x.box(500);
        x.penalty(0, 9999, false);
        x.box(500);
        Check.answers("13: breaks", x::breakUp, 2);
        int[] due = {0, 0, 0, 0, -1, -1, -1, 1, 1, 1};
        for (int i = 0; i < due.length; i++) {
            int item = i;
            Check.answers("13: item " + item, () -> x.lineOf(item), due[item]);
        }
        for (int off : new int[] {Integer.MIN_VALUE, -1, 10, Integer.MAX_VALUE}) {
            Check.fails("13: item " + off, () -> x.lineOf(off), Check.INDEX);
            Check.fails("14: item " + off, () -> x.place(off), Check.INDEX);
        }
    }

    private static void promise14Place() {
        OptimalLines x = new OptimalLines();
        Check.fails("14: none yet", () -> x.place(-1), Check.STATE);
        x.box(300);
        x.glue(10, 1, 2, 0);
        x.box(300);
        x.glue(10, 2, 5, 0);
        x.box(280);
        x.setting(4, -1);
        x.setting(5, -1);
        places("14: stretch rounded down", x, 1000, 0, 300, 343, 643, 720);
        places("14: no excess", x, 900, 0, 300, 310, 610, 620);
        places("14: shrink of what is positive rounded down", x, 896, 0, 300, 309, 609, 616);
        x.clear();
        x.box(300);
        x.glue(10, 50, 0, 3);
        x.box(300);
        x.penalty(50, 10000, false);
        x.glue(10, 50, 0, 0);
        x.box(280);
        places("14: fill before stretch", x, 1000, 0, 300, 410, 710, 710, 720);
        x.clear();
        x.glue(0, 0, 9, 0);
        x.box(500);
        x.penalty(0, 10000, false);
        places("14: never shrinks by more than it can", x, 400, 0, -9, 491);
        x.clear();
        x.box(250);
        x.penalty(0, 10000, false);
        x.box(250);
        x.setting(5, 10000);
        x.setting(6, 100000);
        places("14: nothing to set", x, 1000, 0, 250, 250);
        x.clear();
        x.glue(100000, 100000, 0, 0);
        x.box(1);
        places("14: large amounts", x, 1000000, 0, 999999);
        OptimalLines y = twoBoxes(0);
        y.breakUp();
        Check.answers("14: a break has no place", () -> y.place(1), -1);
        Check.answers("14: each line from 0", () -> y.place(2), 0);
    }

    private static void staleLines() {
        for (int change = 0; change < 6; change++) {
            OptimalLines x = twoBoxes(0);
            x.breakUp();
            Check.answers("known", x::pass, 1);
            switch (change) {
                case 0 -> x.box(1);
                case 1 -> x.glue(1, 1, 1, 1);
                case 2 -> x.penalty(1, 1, true);
                case 3 -> x.clear();
                case 4 -> x.width(40, 1000);
                default -> x.setting(7, 0);
            }
            Check.fails("9: stale by " + change, x::pass, Check.STATE);
            Check.fails("10: stale by " + change, x::demerits, Check.STATE);
            Check.fails("11: stale by " + change, () -> x.line(0, 9), Check.STATE);
            Check.fails("12: stale by " + change, x::over, Check.STATE);
            Check.fails("13: stale by " + change, () -> x.lineOf(-1), Check.STATE);
            Check.fails("14: stale by " + change, () -> x.place(999), Check.STATE);
        }
    }

    private static void failedCallsChangeNothing() {
        OptimalLines x = twoBoxes(0);
        x.breakUp();
        Check.fails("box", () -> x.box(-1), Check.ARGUMENT);
        Check.fails("glue", () -> x.glue(0, 0, -1, 0), Check.ARGUMENT);
        Check.fails("penalty", () -> x.penalty(0, 10001, true), Check.ARGUMENT);
        Check.fails("width", () -> told(x, 41, 1), Check.ARGUMENT);
        Check.fails("setting", () -> x.setting(0, 1001), Check.ARGUMENT);
        Check.fails("line", () -> x.line(2, 0), Check.INDEX);
        Check.answers("lines are still known", x::pass, 1);
        Check.answers("no item came", x::clear, 3);
        fill(x, 400);
        x.breakUp();
        Check.fails("a full object", () -> x.box(1), Check.STATE);
        Check.answers("lines are known after it", () -> x.lineOf(0), 0);
    }

    private static void places(String label, OptimalLines x, int width, int... due) {
        x.width(0, width);
        Check.answers(label + ": one line", x::breakUp, 1);
        for (int i = 0; i < due.length; i++) {
            int item = i;
            Check.answers(label + ": place of " + item, () -> x.place(item), due[item]);
        }
    }

    private static long told(OptimalLines x, int line, int width) {
        x.width(line, width);
        return 0;
    }

    private static void fill(OptimalLines x, int items) {
        int number = 0;
        while (number < items - 1) {
            number = x.box(1);
        }
    }

    private static OptimalLines twoBoxes(int cost) {
        OptimalLines x = new OptimalLines();
        x.box(1000);
        x.penalty(0, cost, false);
        x.box(1000);
        return x;
    }

    private static OptimalLines forcedLines(int lines) {
        OptimalLines x = new OptimalLines();
        for (int k = 1; k < lines; k++) {
            x.penalty(0, -10000, false);
        }
        return x;
    }

    /** One line whose stretch is 297, so that r is its excess. */
    private static OptimalLines loose(int width) {
        OptimalLines x = new OptimalLines();
        x.glue(0, 297, 0, 0);
        x.width(0, width);
        return x;
    }

    /** One line whose shrink is 297, and which is so much too wide. */
    private static OptimalLines tight(int lack) {
        OptimalLines x = new OptimalLines();
        x.glue(0, 0, 297, 0);
        x.box(1000);
        x.width(0, 1000 - lack);
        return x;
    }

    private static OptimalLines oneOrThreeLines() {
        OptimalLines x = new OptimalLines();
        x.glue(0, 0, 0, 1);
        x.box(10);
        x.penalty(0, 0, false);
        x.box(10);
        x.penalty(0, 0, false);
        x.box(20);
        x.width(0, 40);
        x.width(1, 10);
        x.width(2, 20);
        return x;
    }

    /** Its ways have one line, or two that end at item 2 or 4, all without demerits. */
    private static OptimalLines filledParagraph() {
        OptimalLines x = new OptimalLines();
        x.setting(0, 0);
        x.glue(0, 0, 0, 1);
        x.box(10);
        x.penalty(0, 0, false);
        x.box(10);
        x.penalty(0, 0, false);
        x.box(10);
        x.glue(0, 0, 0, 1);
        x.box(10);
        return x;
    }
}
