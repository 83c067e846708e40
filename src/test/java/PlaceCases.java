/** Promises 13 and 14: in which line an item is, and where. */
final class PlaceCases {
    private PlaceCases() {
    }

    @Sentence(promise = 13, says = "In which line an item is")
    static void everyItemOfALineIsInIt() {
        new Text().glue(0, 0, 0, 0).penalty(0, Text.NO_BREAK).box(1000).penalty(0, Text.FORCED).box(500)
                .penalty(0, 9999).box(500).flagged(0, Text.NO_BREAK).breaksAt(3, 8)
                .linesOfItems(0, 0, 0, -1, 1, 1, 1, 1);
    }

    @Sentence(promise = 13, says = "NONE if it was dropped")
    static void droppedItemsAreInNone() {
        new Text().box(1000).penalty(0, Text.FORCED).glue(0, 0, 0, 0).penalty(0, Text.NO_BREAK).box(1000)
                .penalty(0, Text.FORCED).glue(0, 0, 0, 1).breaksAt(1, 5, 7).linesOfItems(0, -1, -1, -1, 1, -1, -1);
    }

    @Sentence(promise = 13, says = "NONE if it .. is a break")
    static void breaksAreInNone() {
        new Text().box(1000).glue(0, 0, 0, 0).box(1000).penalty(0, 0).box(1000).breaksAt(1, 3, 5)
                .linesOfItems(0, -1, 1, -1, 2);
    }

    @Sentence(promise = 13, says = "NONE if it is a break: not one that was not taken")
    static void breaksNotTakenAreInTheirLine() {
        new Text().box(500).glue(0, 0, 0, 0).box(300).penalty(0, 0).box(200).breaksAt(5).linesOfItems(0, 0, 0, 0, 0);
    }

    @Sentence(promise = 13, says = "In which line an item is: the last of 400")
    static void lastOf400ItemsIsInTheLastLine() {
        Text text = new Text();
        for (int i = 0; i < 200; i++) {
            text.penalty(0, Text.FORCED).box(1000);
        }
        text.breaksInto(201);
        Check.answers("lineOf(399)", () -> text.lines.lineOf(399), 200);
        Check.answers("lineOf(398)", () -> text.lines.lineOf(398), -1);
        Check.answers("lineOf(1)", () -> text.lines.lineOf(1), 1);
    }

    @Sentence(promise = 13, says = "NONE if it was dropped: though it was in a line of an older breaking")
    static void itemsLeaveTheLinesOfAnOlderBreaking() {
        new Text().box(1000).penalty(0, 0).box(1000).penalty(0, 0).box(1000).breaksAt(1, 3, 5)
                .linesOfItems(0, -1, 1, -1, 2).clear().box(1000).penalty(0, Text.FORCED).glue(0, 0, 0, 0)
                .glue(0, 0, 0, 0).glue(0, 0, 0, 0).breaksAt(1, 5).linesOfItems(0, -1, -1, -1, -1);
    }

    @Sentence(promise = 13, says = "IndexOutOfBounds: there is no such item")
    static void thereIsNoSuchItem() {
        OptimalLines x = new Text().box(500).box(500).breaksAt(2).lines;
        for (int item : new int[] {-1, Integer.MIN_VALUE, 2, 400, Integer.MAX_VALUE}) {
            Check.fails("lineOf(" + item + ")", () -> x.lineOf(item), Check.INDEX);
        }
    }

    @Sentence(promise = 13, says = "IndexOutOfBounds: there is no such item: after a clear")
    static void clearedItemsAreNoMore() {
        Text text = new Text().box(500).box(500).breaksAt(2).clear().box(1000).breaksAt(1);
        Check.answers("lineOf(0)", () -> text.lines.lineOf(0), 0);
        Check.fails("lineOf(1)", () -> text.lines.lineOf(1), Check.INDEX);
        Check.fails("place(1)", () -> text.lines.place(1), Check.INDEX);
    }

    @Sentence(promise = 14, says = "IndexOutOfBounds")
    static void noSuchItemHasAPlace() {
        OptimalLines x = new Text().box(500).box(500).breaksAt(2).lines;
        for (int item : new int[] {-1, Integer.MIN_VALUE, 2, 400, Integer.MAX_VALUE}) {
            Check.fails("place(" + item + ")", () -> x.place(item), Check.INDEX);
        }
    }

    @Sentence(promise = 14, says = "NONE if it is in none")
    static void itemInNoLineHasNoPlace() {
        new Text().box(1000).penalty(0, Text.FORCED).glue(9, 0, 0, 0).penalty(0, Text.NO_BREAK).box(1000)
                .breaksAt(1, 5).placesOfItems(0, -1, -1, -1, 0);
    }

    @Sentence(promise = 14, says = "the sum of widths of boxes and glue before it in its line")
    static void placeIsTheSumOfWidthsBefore() {
        new Text().glue(10, 0, 0, 0).box(300).penalty(99, 50).glue(20, 0, 0, 0).box(670).breaksAt(5)
                .placesOfItems(0, 10, 310, 310, 330);
    }

    @Sentence(promise = 14, says = "where each box lies when the glue is set: an ordinary text")
    static void ordinaryTextIsSet() {
        Text text = new Text().width(0, 300).box(120).glue(50, 25, 17, 0).box(120).glue(50, 25, 17, 0).box(140)
                .glue(50, 25, 17, 0).box(101).penalty(0, Text.NO_BREAK).glue(0, 0, 0, 1);
        text.breaksAt(3, 9).passIs(1).demeritsAre(16 * 16 + 100).tells(0, Text.EXCESS, 10).tells(1, Text.EXCESS, 9)
                .linesOfItems(0, 0, 0, -1, 1, 1, 1, 1, 1).placesOfItems(0, 120, 180, -1, 0, 140, 190, 291, 291);
    }

    @Sentence(promise = 14, says = "before it in its line: not in a line before, nor what was dropped")
    static void eachLineBeginsAt0() {
        new Text().box(1000).glue(7, 0, 0, 0).box(400).box(600).breaksAt(1, 4).placesOfItems(0, -1, 0, 400);
    }

    @Sentence(promise = 14, says = "EXCESS times .. STRETCH .. before it, divided by that of all, rounded down")
    static void stretchIsSharedAndRoundedDown() {
        new Text().withoutPasses().box(300).glue(10, 1, 0, 0).box(300).glue(10, 2, 0, 0).box(280).breaksAt(5)
                .placesOfItems(0, 300, 310 + 33, 610 + 33, 620 + 100);
    }

    @Sentence(promise = 14, says = "the FILL (if the line has some, else STRETCH)")
    static void fillIsSharedInPlaceOfStretch() {
        new Text().box(300).glue(10, 50, 0, 1).box(300).glue(10, 90, 0, 2).box(200).penalty(0, Text.NO_BREAK)
                .glue(0, 80, 0, 0).box(80).breaksAt(8)
                .placesOfItems(0, 300, 310 + 33, 610 + 33, 620 + 100, 820 + 100, 820 + 100, 820 + 100);
    }

    @Sentence(promise = 14, says = "EXCESS above 0 and STRETCH or FILL above 0: the least of them")
    static void leastExcessIsSet() {
        new Text().width(0, 1).glue(0, 0, 0, 1).box(0).breaksAt(2).placesOfItems(0, 1);
        new Text().width(0, 1).glue(0, 1, 0, 0).box(0).breaksAt(2).placesOfItems(0, 1);
        new Text().glue(0, 0, 0, 1).box(0).glue(0, 9, 0, 0).box(0).breaksAt(4).placesOfItems(0, 1000, 1000, 1000);
    }

    @Sentence(promise = 14, says = "of the line's glue before it: not of lines before")
    static void glueOfLinesBeforeDoesNotCount() {
        new Text().slack(100).penalty(0, Text.FORCED).slack(50).box(0).breaksAt(3, 8)
                .placesOfItems(0, 900, 900, -1, 0, 950, 950, 1000);
        new Text().slack(-100).penalty(0, Text.FORCED).slack(-50).box(0).breaksAt(3, 8)
                .placesOfItems(0, 1100, 1100, -1, 0, 1050, 1050, 1000);
        new Text().filled(900).penalty(0, Text.FORCED).filled(950).box(0).breaksAt(3, 8)
                .placesOfItems(0, 900, 900, -1, 0, 950, 950, 1000);
    }

    @Sentence(promise = 14, says = "FILL of the line's glue: not of what was dropped or is its break")
    static void fillOutsideTheLineDoesNotCount() {
        new Text().box(1000).penalty(0, Text.FORCED).glue(0, 0, 0, 9).box(300).penalty(0, Text.NO_BREAK)
                .glue(0, 0, 0, 1).box(300).glue(0, 0, 0, 9).penalty(0, Text.FORCED).box(1000)
                .set(Text.PRETOLERANCE, 0).breaksAt(1, 8, 10).placesOfItems(0, -1, -1, 0, 300, 300, 340, 640, -1, 0);
    }

    @Sentence(promise = 14, says = "with EXCESS below 0 the same with SHRINK, of what is positive rounded down")
    static void shrinkIsSharedAndRoundedTowards0() {
        new Text().withoutPasses().width(0, 896).box(300).glue(10, 9, 2, 0).box(300).glue(10, 9, 5, 9).box(280)
                .breaksAt(5).placesOfItems(0, 300, 310 - 1, 610 - 1, 620 - 4);
    }

    @Sentence(promise = 14, says = "the excess being -SHRINK at least")
    static void tooLongLineShrinksByAllItCan() {
        new Text().glue(0, 0, 9, 0).box(1500).penalty(0, Text.NO_BREAK).glue(0, 0, 1, 0).box(1).breaksAt(5).overIs(1)
                .placesOfItems(0, -9, 1491, 1491, 1490);
    }

    @Sentence(promise = 14, says = "the excess being -SHRINK at least: at -SHRINK")
    static void lineThatJustFitsShrinksByAllItCan() {
        new Text().glue(0, 0, 9, 0).box(1008).penalty(0, Text.NO_BREAK).glue(0, 0, 1, 0).box(2).breaksAt(5).overIs(0)
                .placesOfItems(0, -9, 999, 999, 998);
    }

    @Sentence(promise = 14, says = "In other lines it is 0: EXCESS 0")
    static void lineWithoutExcessIsNotSet() {
        new Text().box(400).glue(100, 5, 5, 5).box(500).breaksAt(3).placesOfItems(0, 400, 500);
    }

    @Sentence(promise = 14, says = "In other lines it is 0: EXCESS above 0 without STRETCH or FILL")
    static void lineWithoutStretchIsNotSet() {
        new Text().box(400).glue(100, 0, 5, 0).box(400).breaksAt(3).placesOfItems(0, 400, 500);
    }

    @Sentence(promise = 14, says = "In other lines it is 0: EXCESS below 0 without SHRINK")
    static void lineWithoutShrinkIsNotSet() {
        new Text().box(400).penalty(0, Text.NO_BREAK).glue(100, 5, 0, 5).box(600).breaksAt(4).overIs(1)
                .placesOfItems(0, 400, 400, 500);
    }

    @Sentence(promise = 14, says = "STRETCH: without the emergency's, in the third pass too")
    static void emergencysStretchSetsNothing() {
        Text text = new Text().withoutPasses().set(Text.TOLERANCE, 99).set(Text.EMERGENCY, 100_000);
        text.box(100).penalty(0, Text.NO_BREAK).glue(0, 100, 0, 0).box(100).breaksAt(4).passIs(3)
                .placesOfItems(0, 100, 100, 900);
        text.clear().box(100).glue(0, 0, 0, 0).box(100).breaksAt(3).passIs(3).placesOfItems(0, 100, 100);
    }

    @Sentence(promise = 14, says = "EXCESS times the FILL: more than an int holds")
    static void largeFillIsShared() {
        Text text = new Text().width(0, 1_000_000);
        for (int i = 0; i < 400; i++) {
            text.glue(0, 0, 0, 100);
        }
        text.breaksAt(400);
        Check.answers("place(399)", () -> text.lines.place(399), 997_500);
        Check.answers("place(1)", () -> text.lines.place(1), 2500);
    }

    @Sentence(promise = 14, says = "EXCESS times the STRETCH: more than an int holds")
    static void largeStretchIsShared() {
        Text text = new Text().width(0, 1_000_000);
        for (int i = 0; i < 400; i++) {
            text.glue(0, 100_000, 0, 0);
        }
        text.breaksAt(400);
        Check.answers("place(399)", () -> text.lines.place(399), 997_500);
    }

    @Sentence(promise = 14, says = "the same with SHRINK: more than an int holds")
    static void largeShrinkIsShared() {
        Text text = new Text();
        for (int i = 0; i < 150; i++) {
            text.glue(0, 0, 100_000, 0).box(100_000);
        }
        text.breaksAt(300);
        Check.answers("place(299)", () -> text.lines.place(299), 14_900_000 - 14_999_000);
        Check.answers("place(1)", () -> text.lines.place(1), -99_993);
    }
}
