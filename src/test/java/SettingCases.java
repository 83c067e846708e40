/** Promises 6 and 7: width and setting. */
final class SettingCases {
    private SettingCases() {
    }

    @Sentence(promise = 6, says = "The width of a line")
    static void widthIsThatOfTheLine() {
        forced(6).width(3, 77).breaksInto(6).tells(3, Text.EXCESS, 77);
    }

    @Sentence(promise = 6, says = "The width of a line: none before it")
    static void widthLeavesTheLinesBefore() {
        forced(6).width(3, 77).breaksInto(6).tells(0, Text.EXCESS, 1000).tells(2, Text.EXCESS, 1000);
    }

    @Sentence(promise = 6, says = "and all behind it")
    static void widthIsThatOfAllLinesBehind() {
        Text text = forced(60).width(30, 5).width(3, 77).breaksInto(60);
        for (int k = 3; k < 60; k++) {
            text.tells(k, Text.EXCESS, 77);
        }
    }

    @Sentence(promise = 6, says = "line is not 0 .. 40: the least")
    static void widthOfLine0IsThatOfAll() {
        forced(60).width(20, 5).width(0, 77).breaksInto(60)
                .tells(0, Text.EXCESS, 77).tells(20, Text.EXCESS, 77).tells(59, Text.EXCESS, 77);
    }

    @Sentence(promise = 6, says = "line is not 0 .. 40: the most")
    static void widthOfLine40IsThatOfAllBehind() {
        forced(60).width(40, 77).breaksInto(60).tells(39, Text.EXCESS, 1000)
                .tells(40, Text.EXCESS, 77).tells(41, Text.EXCESS, 77).tells(59, Text.EXCESS, 77);
    }

    @Sentence(promise = 6, says = "line is not 0 .. 40: the last of a feasible way")
    static void widthOfLine39IsUsed() {
        Text text = new Text().width(39, 77);
        for (int k = 0; k < 39; k++) {
            text.box(1000).penalty(0, Text.FORCED);
        }
        text.box(77).breaksInto(40).passIs(1).tells(39, Text.EXCESS, 0);
    }

    @Sentence(promise = 6, says = "IllegalArgument: line is not 0 .. 40")
    static void widthOfAnotherLineIsRefused() {
        for (int line : new int[] {-1, Integer.MIN_VALUE, 41, Integer.MAX_VALUE}) {
            Check.fails("width(" + line + ", 5)", new Text().telling(line, 5), Check.ARGUMENT);
        }
    }

    @Sentence(promise = 6, says = "width not 1 .. 1,000,000: the least")
    static void widthMayBe1() {
        new Text().width(0, 1).box(1).breaksAt(1).tells(0, Text.EXCESS, 0);
    }

    @Sentence(promise = 6, says = "width not 1 .. 1,000,000: the most")
    static void widthMayBe1000000() {
        new Text().width(0, 1_000_000).box(0).breaksAt(1).tells(0, Text.EXCESS, 1_000_000);
    }

    @Sentence(promise = 6, says = "IllegalArgument: width not 1 .. 1,000,000: too small")
    static void widthBelow1IsRefused() {
        for (int width : new int[] {0, -1, Integer.MIN_VALUE}) {
            Check.fails("width(0, " + width + ")", new Text().telling(0, width), Check.ARGUMENT);
        }
    }

    @Sentence(promise = 6, says = "IllegalArgument: width not 1 .. 1,000,000: too large")
    static void widthAbove1000000IsRefused() {
        for (int width : new int[] {1_000_001, Integer.MAX_VALUE}) {
            Check.fails("width(40, " + width + ")", new Text().telling(40, width), Check.ARGUMENT);
        }
    }

    @Sentence(promise = 7, says = "0 line penalty (0 .. 1000)")
    static void linePenaltyHasItsBounds() {
        hasBounds(Text.LINE_PENALTY, 0, 1000);
    }

    @Sentence(promise = 7, says = "1 double demerits (0 .. 100,000)")
    static void doubleDemeritsHaveTheirBounds() {
        hasBounds(Text.DOUBLE, 0, 100_000);
    }

    @Sentence(promise = 7, says = "2 final demerits (0 .. 100,000)")
    static void finalDemeritsHaveTheirBounds() {
        hasBounds(Text.FINAL, 0, 100_000);
    }

    @Sentence(promise = 7, says = "3 adjacent demerits (0 .. 100,000)")
    static void adjacentDemeritsHaveTheirBounds() {
        hasBounds(Text.ADJACENT, 0, 100_000);
    }

    @Sentence(promise = 7, says = "4 pretolerance (-1 .. 10,000)")
    static void pretoleranceHasItsBounds() {
        hasBounds(Text.PRETOLERANCE, -1, 10_000);
    }

    @Sentence(promise = 7, says = "5 tolerance (-1 .. 10,000)")
    static void toleranceHasItsBounds() {
        hasBounds(Text.TOLERANCE, -1, 10_000);
    }

    @Sentence(promise = 7, says = "6 the emergency's stretch (0 .. 100,000)")
    static void emergencyHasItsBounds() {
        hasBounds(Text.EMERGENCY, 0, 100_000);
    }

    @Sentence(promise = 7, says = "7 looseness (-20 .. 20)")
    static void loosenessHasItsBounds() {
        hasBounds(Text.LOOSENESS, -20, 20);
    }

    @Sentence(promise = 7, says = "what it was")
    static void settingTellsWhatItWas() {
        OptimalLines x = new OptimalLines();
        Check.answers("the first", () -> x.setting(5, 7), 200);
        Check.answers("the second", () -> x.setting(5, 8), 7);
        Check.answers("the same again", () -> x.setting(5, 8), 8);
        Check.answers("another", () -> x.setting(4, 9), 100);
    }

    @Sentence(promise = 7, says = "IllegalArgument: another what")
    static void anotherSettingIsRefused() {
        for (int what : new int[] {-1, Integer.MIN_VALUE, 8, Integer.MAX_VALUE}) {
            Check.fails("setting(" + what + ", 0)", () -> new OptimalLines().setting(what, 0), Check.ARGUMENT);
        }
    }

    @Sentence(promise = 7, says = "pretolerance .. with -1 the pass fails at once")
    static void pretoleranceOfMinus1FailsTheFirstPass() {
        Text text = new Text().box(1000).breaksAt(1).passIs(1);
        text.set(Text.PRETOLERANCE, 0).breaksAt(1).passIs(1);
        text.set(Text.PRETOLERANCE, -1).breaksAt(1).passIs(2);
    }

    @Sentence(promise = 7, says = "tolerance .. with -1 the pass fails at once: the second, and the third")
    static void toleranceOfMinus1FailsTheOtherPasses() {
        Text text = new Text().box(1000).set(Text.PRETOLERANCE, -1).set(Text.EMERGENCY, 100_000);
        text.set(Text.TOLERANCE, 0).breaksAt(1).passIs(2);
        text.set(Text.TOLERANCE, -1).breaksAt(1).passIs(4);
    }

    private static void hasBounds(int what, int least, int most) {
        OptimalLines x = new OptimalLines();
        x.setting(what, most);
        Check.answers("the least", () -> x.setting(what, least), most);
        for (int v : new int[] {least - 1, Integer.MIN_VALUE, most + 1, Integer.MAX_VALUE}) {
            Check.fails("setting(" + what + ", " + v + ")", () -> x.setting(what, v), Check.ARGUMENT);
        }
        Check.answers("the most", () -> x.setting(what, most), least);
    }

    private static Text forced(int lines) {
        return new Text().penalties(lines - 1, Text.FORCED);
    }
}
