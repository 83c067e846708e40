import java.util.function.IntUnaryOperator;

/** Promises 1 to 5: a new object, box, glue, penalty and clear. */
final class ItemCases {
    private static final int MOST_ITEMS = 400;
    private static final int MOST = 100_000;

    private ItemCases() {
    }

    @Sentence(promise = 1, says = "No items")
    static void newObjectHasNoItems() {
        Check.answers("clear()", new Text().lines::clear, 0);
        Check.answers("box(1)", () -> new Text().lines.box(1), 0);
    }

    @Sentence(promise = 1, says = "all lines 1000 wide")
    static void newObjectHasLinesOf1000() {
        Text text = new Text().penalties(399, Text.FORCED).breaksInto(400);
        for (int k = 0; k < 400; k++) {
            text.tells(k, Text.EXCESS, 1000);
        }
    }

    @Sentence(promise = 1, says = "line penalty 10, double 10,000, final 5000, adjacent 10,000, pretolerance 100, "
            + "tolerance 200, emergency 0, looseness 0")
    static void newObjectTellsItsSettings() {
        int[] due = {10, 10_000, 5000, 10_000, 100, 200, 0, 0};
        for (int what = 0; what < due.length; what++) {
            int of = what;
            Check.answers("setting(" + of + ", 1)", () -> new Text().lines.setting(of, 1), due[of]);
        }
    }

    @Sentence(promise = 1, says = "line penalty 10, double 10,000, final 5000, adjacent 10,000")
    static void newObjectReckonsWithItsDemerits() {
        new Text().box(1000).flagged(0, 0).box(1000).flagged(0, 0).slack(297).breaksAt(1, 3, 7).passIs(2)
                .demeritsAre(100 + 100 + 10_000 + 110 * 110 + 5000 + 10_000);
    }

    @Sentence(promise = 1, says = "pretolerance 100, tolerance 200, emergency 0")
    static void newObjectBreaksWithItsTolerances() {
        new Text().slack(297).breaksInto(1).tells(0, Text.BADNESS, 100).passIs(1);
        new Text().slack(298).breaksInto(1).tells(0, Text.BADNESS, 101).passIs(2);
        new Text().slack(374).breaksInto(1).tells(0, Text.BADNESS, 200).passIs(2);
        new Text().slack(375).breaksInto(1).tells(0, Text.BADNESS, 201).passIs(4);
    }

    @Sentence(promise = 1, says = "A new object")
    static void newObjectHasNothingOfAnother() {
        Text old = new Text().width(0, 7).set(Text.LINE_PENALTY, 3).box(7);
        new Text().box(1000).breaksAt(1).demeritsAre(100).tells(0, Text.EXCESS, 0);
        old.breaksAt(1).demeritsAre(9).tells(0, Text.EXCESS, 0);
    }

    @Sentence(promise = 2, says = "A BOX: its number; ITEMS, numbered from 0")
    static void boxTellsItsNumber() {
        OptimalLines x = new OptimalLines();
        Check.answers("the first", () -> x.box(5), 0);
        Check.answers("the second", () -> x.box(5), 1);
        x.glue(0, 0, 0, 0);
        x.penalty(0, 0, false);
        Check.answers("behind glue and a penalty", () -> x.box(5), 4);
    }

    @Sentence(promise = 2, says = "the width is not 0 .. 100,000: the least")
    static void boxMayHaveNoWidth() {
        new Text().box(0).breaksAt(1).tells(0, Text.EXCESS, 1000);
    }

    @Sentence(promise = 2, says = "the width is not 0 .. 100,000: the most")
    static void boxMayBe100000Wide() {
        new Text().box(MOST).breaksAt(1).tells(0, Text.EXCESS, 1000 - MOST);
    }

    @Sentence(promise = 2, says = "IllegalArgument: the width is not 0 .. 100,000: too small")
    static void boxBelow0IsRefused() {
        refuses("box", new OptimalLines()::box, -1, Integer.MIN_VALUE);
    }

    @Sentence(promise = 2, says = "IllegalArgument: the width is not 0 .. 100,000: too large")
    static void boxAbove100000IsRefused() {
        refuses("box", new OptimalLines()::box, MOST + 1, Integer.MAX_VALUE);
    }

    @Sentence(promise = 2, says = "IllegalState: there are 400 items")
    static void boxIsRefusedWhenFull() {
        OptimalLines x = filledUpTo(MOST_ITEMS - 1);
        Check.answers("the last", () -> x.box(5), MOST_ITEMS - 1);
        Check.fails("one more", () -> x.box(5), Check.STATE);
        Check.answers("clear()", x::clear, MOST_ITEMS);
    }

    @Sentence(promise = 2, says = "where it lists more than one exception, the first one wins")
    static void boxLooksAtTheWidthFirst() {
        OptimalLines x = filledUpTo(MOST_ITEMS);
        refuses("box", x::box, -1, MOST + 1);
    }

    @Sentence(promise = 3, says = "GLUE: its number; ITEMS, numbered from 0")
    static void glueTellsItsNumber() {
        OptimalLines x = new OptimalLines();
        Check.answers("the first", () -> x.glue(1, 1, 1, 1), 0);
        x.box(0);
        x.penalty(0, 0, false);
        Check.answers("behind a box and a penalty", () -> x.glue(1, 1, 1, 1), 3);
    }

    @Sentence(promise = 3, says = "the width, stretch or shrink is not 0 .. 100,000, or fill not 0 .. 100: the least")
    static void glueMayBeNothing() {
        new Text().glue(0, 0, 0, 0).breaksAt(1).tells(0, Text.EXCESS, 1000).tells(0, Text.BADNESS, 10_000);
    }

    @Sentence(promise = 3, says = "the width is not 0 .. 100,000: the most")
    static void glueMayBe100000Wide() {
        new Text().glue(MOST, 0, 0, 0).breaksAt(1).tells(0, Text.EXCESS, 1000 - MOST);
    }

    @Sentence(promise = 3, says = "the stretch is not 0 .. 100,000: the most")
    static void glueMayStretchBy100000() {
        new Text().glue(0, MOST, 0, 0).width(0, MOST).breaksAt(1).tells(0, Text.BADNESS, 100);
    }

    @Sentence(promise = 3, says = "the shrink is not 0 .. 100,000: the most")
    static void glueMayShrinkBy100000() {
        new Text().glue(0, 0, MOST, 0).box(MOST).box(1).width(0, 1).breaksAt(3).tells(0, Text.BADNESS, 100).overIs(0);
    }

    @Sentence(promise = 3, says = "fill is not 0 .. 100: the most")
    static void glueMayFillBy100() {
        new Text().glue(0, 0, 0, 100).glue(0, 0, 0, 1).box(0).width(0, 101).breaksAt(3).placesOfItems(0, 100, 101);
    }

    @Sentence(promise = 3, says = "IllegalArgument: the width is not 0 .. 100,000")
    static void glueOfAnotherWidthIsRefused() {
        OptimalLines x = new OptimalLines();
        refuses("width", v -> x.glue(v, 0, 0, 0), -1, Integer.MIN_VALUE, MOST + 1, Integer.MAX_VALUE);
    }

    @Sentence(promise = 3, says = "IllegalArgument: the stretch is not 0 .. 100,000")
    static void glueOfAnotherStretchIsRefused() {
        OptimalLines x = new OptimalLines();
        refuses("stretch", v -> x.glue(0, v, 0, 0), -1, Integer.MIN_VALUE, MOST + 1, Integer.MAX_VALUE);
    }

    @Sentence(promise = 3, says = "IllegalArgument: the shrink is not 0 .. 100,000")
    static void glueOfAnotherShrinkIsRefused() {
        OptimalLines x = new OptimalLines();
        refuses("shrink", v -> x.glue(0, 0, v, 0), -1, Integer.MIN_VALUE, MOST + 1, Integer.MAX_VALUE);
    }

    @Sentence(promise = 3, says = "IllegalArgument: fill is not 0 .. 100")
    static void glueOfAnotherFillIsRefused() {
        OptimalLines x = new OptimalLines();
        refuses("fill", v -> x.glue(0, 0, 0, v), -1, Integer.MIN_VALUE, 101, MOST, Integer.MAX_VALUE);
    }

    @Sentence(promise = 3, says = "IllegalState: there are 400 items")
    static void glueIsRefusedWhenFull() {
        OptimalLines x = filledUpTo(MOST_ITEMS - 1);
        Check.answers("the last", () -> x.glue(0, 0, 0, 0), MOST_ITEMS - 1);
        Check.fails("one more", () -> x.glue(0, 0, 0, 0), Check.STATE);
        Check.answers("clear()", x::clear, MOST_ITEMS);
    }

    @Sentence(promise = 3, says = "where it lists more than one exception, the first one wins")
    static void glueLooksAtTheArgumentsFirst() {
        OptimalLines x = filledUpTo(MOST_ITEMS);
        refuses("width", v -> x.glue(v, 0, 0, 0), MOST + 1);
        refuses("stretch", v -> x.glue(0, v, 0, 0), MOST + 1);
        refuses("shrink", v -> x.glue(0, 0, v, 0), MOST + 1);
        refuses("fill", v -> x.glue(0, 0, 0, v), 101);
    }

    @Sentence(promise = 4, says = "A PENALTY: its number; ITEMS, numbered from 0")
    static void penaltyTellsItsNumber() {
        OptimalLines x = new OptimalLines();
        Check.answers("the first", () -> x.penalty(1, 1, false), 0);
        x.box(0);
        x.glue(0, 0, 0, 0);
        Check.answers("behind a box and glue", () -> x.penalty(1, 1, true), 3);
    }

    @Sentence(promise = 4, says = "the width is not 0 .. 100,000: the least and the most")
    static void penaltyMayBe0To100000Wide() {
        new Text().penalty(0, Text.FORCED).penalty(MOST, Text.FORCED).breaksAt(0, 1, 2)
                .tells(0, Text.EXCESS, 1000).tells(1, Text.EXCESS, 1000 - MOST);
    }

    @Sentence(promise = 4, says = "IllegalArgument: the width is not 0 .. 100,000")
    static void penaltyOfAnotherWidthIsRefused() {
        OptimalLines x = new OptimalLines();
        refuses("width", v -> x.penalty(v, 0, false), -1, Integer.MIN_VALUE, MOST + 1, Integer.MAX_VALUE);
    }

    @Sentence(promise = 4, says = "the cost not -10,000 .. 10,000: the least and the most")
    static void penaltyMayCost10000EitherWay() {
        OptimalLines x = new OptimalLines();
        Check.answers("the least", () -> x.penalty(0, -10_000, false), 0);
        Check.answers("the most", () -> x.penalty(0, 10_000, true), 1);
    }

    @Sentence(promise = 4, says = "IllegalArgument: the cost not -10,000 .. 10,000: too small")
    static void penaltyOfALesserCostIsRefused() {
        OptimalLines x = new OptimalLines();
        refuses("cost", v -> x.penalty(0, v, false), -10_001, Integer.MIN_VALUE);
    }

    @Sentence(promise = 4, says = "IllegalArgument: the cost not -10,000 .. 10,000: too large")
    static void penaltyOfAGreaterCostIsRefused() {
        OptimalLines x = new OptimalLines();
        refuses("cost", v -> x.penalty(0, v, true), 10_001, Integer.MAX_VALUE);
    }

    @Sentence(promise = 4, says = "IllegalState: there are 400 items")
    static void penaltyIsRefusedWhenFull() {
        OptimalLines x = filledUpTo(MOST_ITEMS - 1);
        Check.answers("the last", () -> x.penalty(0, 0, true), MOST_ITEMS - 1);
        Check.fails("one more", () -> x.penalty(0, 0, true), Check.STATE);
        Check.answers("clear()", x::clear, MOST_ITEMS);
    }

    @Sentence(promise = 4, says = "where it lists more than one exception, the first one wins")
    static void penaltyLooksAtTheArgumentsFirst() {
        OptimalLines x = filledUpTo(MOST_ITEMS);
        refuses("width", v -> x.penalty(v, 0, false), MOST + 1);
        refuses("cost", v -> x.penalty(0, v, false), 10_001);
    }

    @Sentence(promise = 5, says = "how many there were")
    static void clearTellsHowManyThereWere() {
        OptimalLines x = new OptimalLines();
        Check.answers("none", x::clear, 0);
        x.box(1);
        Check.answers("one", x::clear, 1);
        Check.answers("none again", x::clear, 0);
        Check.answers("a full object", filledUpTo(MOST_ITEMS)::clear, MOST_ITEMS);
    }

    @Sentence(promise = 5, says = "No items")
    static void clearLeavesNoItems() {
        OptimalLines x = filledUpTo(MOST_ITEMS);
        x.clear();
        Check.fails("breakUp()", x::breakUp, Check.STATE);
        Check.answers("there is room again, from 0 on", () -> x.box(1), 0);
    }

    @Sentence(promise = 5, says = "No items: nothing of what they were is left")
    static void clearLeavesNothingOfTheItems() {
        new Text().box(700).flagged(9, Text.FORCED).glue(5, 6, 7, 8).clear()
                .box(1000).penalty(0, 0).box(1000).breaksAt(1, 3).passIs(1).demeritsAre(200).tells(0, Text.EXCESS, 0);
    }

    @Sentence(promise = 5, says = "Widths stay")
    static void clearLeavesTheWidths() {
        new Text().width(0, 30).width(1, 50).box(1).clear().box(30).penalty(0, 0).box(50).breaksAt(1, 3)
                .tells(0, Text.EXCESS, 0).tells(1, Text.EXCESS, 0);
    }

    @Sentence(promise = 5, says = "settings stay")
    static void clearLeavesTheSettings() {
        int[] told = {1, 2, 3, 4, 5, 6, 7, 8};
        Text text = new Text().box(1);
        for (int what = 0; what < told.length; what++) {
            text.set(what, told[what]);
        }
        text.clear();
        for (int what = 0; what < told.length; what++) {
            int of = what;
            Check.answers("setting(" + of + ", 0)", () -> text.lines.setting(of, 0), told[of]);
        }
    }

    private static OptimalLines filledUpTo(int count) {
        OptimalLines x = new OptimalLines();
        for (int i = 0; i < count; i++) {
            x.box(1);
        }
        return x;
    }

    private static void refuses(String label, IntUnaryOperator call, int... values) {
        for (int value : values) {
            Check.fails(label + " " + value, () -> call.applyAsInt(value), Check.ARGUMENT);
        }
    }
}
