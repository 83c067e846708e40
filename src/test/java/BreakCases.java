/** Promise 8: where one breaks, what a line has, and how wide it is. */
final class BreakCases {
    private BreakCases() {
    }

    @Sentence(promise = 8, says = "One BREAKS at glue directly behind a box")
    static void glueBehindABoxIsABreak() {
        new Text().box(1000).glue(0, 0, 0, 0).box(1000).breaksAt(1, 3).passIs(1);
    }

    @Sentence(promise = 8, says = "One BREAKS at glue directly behind a box: one without a width")
    static void glueBehindABoxWithoutWidthIsABreak() {
        new Text().box(1000).box(0).glue(0, 0, 0, 0).box(1000).breaksAt(2, 4).passIs(1);
    }

    @Sentence(promise = 8, says = "glue directly behind a box: not glue that is the first item")
    static void firstGlueIsNoBreak() {
        new Text().glue(0, 0, 0, 0).box(1001).breaksAt(2).overIs(1);
    }

    @Sentence(promise = 8, says = "glue directly behind a box: not glue behind glue")
    static void glueBehindGlueIsNoBreak() {
        new Text().box(400).glue(0, 0, 0, 0).glue(0, 0, 0, 0).box(1000).breaksAt(1, 4).passIs(4);
    }

    @Sentence(promise = 8, says = "glue directly behind a box: not glue behind a penalty")
    static void glueBehindAPenaltyIsNoBreak() {
        new Text().box(400).penalty(0, Text.NO_BREAK).glue(0, 0, 0, 0).box(1000).breaksAt(4).overIs(1);
    }

    @Sentence(promise = 8, says = "One BREAKS .. never at a box")
    static void boxIsNoBreak() {
        new Text().box(1000).box(1000).breaksAt(2).overIs(1);
    }

    @Sentence(promise = 8, says = "at a penalty of a cost below 10,000: 9999")
    static void penaltyOf9999IsABreak() {
        new Text().box(1000).penalty(0, 9999).box(1000).breaksAt(1, 3).passIs(1);
    }

    @Sentence(promise = 8, says = "at a penalty of a cost below 10,000: not 10,000")
    static void penaltyOf10000IsNoBreak() {
        new Text().box(1000).penalty(0, 10_000).box(1000).breaksAt(3).passIs(4).overIs(1);
        new Text().box(1000).flagged(0, 10_000).box(1000).breaksAt(3).passIs(4).overIs(1);
    }

    @Sentence(promise = 8, says = "at a penalty: the first item too")
    static void firstPenaltyIsABreak() {
        new Text().penalty(0, 0).box(1001).breaksAt(0, 2).overIs(1);
    }

    @Sentence(promise = 8, says = "at a penalty: the last item too")
    static void lastPenaltyIsABreak() {
        new Text().box(1000).penalty(0, Text.FORCED).breaksAt(1, 2).passIs(4);
    }

    @Sentence(promise = 8, says = "at the END (the number of items)")
    static void endIsABreak() {
        new Text().box(1000).breaksAt(1);
        new Text().penalty(0, Text.NO_BREAK).breaksAt(1);
        Text full = new Text();
        for (int i = 0; i < 400; i++) {
            full.box(2);
        }
        full.width(0, 800).breaksAt(400).passIs(1);
    }

    @Sentence(promise = 8, says = "A cost of -10,000 or less FORCES a break")
    static void costOfMinus10000Forces() {
        new Text().filled(500).penalty(0, -10_000).filled(500).breaksAt(3, 7).passIs(1);
    }

    @Sentence(promise = 8, says = "A cost of -10,000 or less FORCES a break: not -9999")
    static void costOfMinus9999DoesNotForce() {
        new Text().box(500).penalty(0, -9999).box(500).breaksAt(3).passIs(1);
    }

    @Sentence(promise = 8, says = "No forced break lies between a and b")
    static void everyForcedBreakIsTaken() {
        new Text().set(Text.PRETOLERANCE, 10_000).penalties(3, Text.FORCED).breaksAt(0, 1, 2, 3).passIs(1);
    }

    @Sentence(promise = 8, says = "items from the first box behind a on (what is before that box is dropped)")
    static void glueBehindABreakIsDropped() {
        new Text().box(1000).glue(5, 0, 0, 0).glue(7, 0, 0, 0).penalty(9, Text.NO_BREAK).box(1000).breaksAt(1, 5)
                .passIs(1).tells(1, Text.EXCESS, 0);
    }

    @Sentence(promise = 8, says = "what is before that box is dropped: breaks too")
    static void breaksMayBeDropped() {
        new Text().box(1000).penalty(0, 0).penalty(0, 0).penalty(0, 0).box(1000).breaksAt(1, 5).passIs(1)
                .linesOfItems(0, -1, -1, -1, 1);
    }

    /** A line to item 2 alone would be too long; what lies between that and the box must not count. */
    @Sentence(promise = 8, says = "what is before that box is dropped: however wide it is")
    static void droppedItemsMayBeWide() {
        new Text().box(1000).penalty(0, 0).penalty(2000, 0).glue(5000, 0, 0, 0).box(1000).breaksAt(1, 5).passIs(1);
    }

    @Sentence(promise = 8, says = "if there is none before b, all is")
    static void lineWithoutABoxHasNothing() {
        new Text().box(1000).penalty(0, Text.FORCED).glue(5, 6, 7, 8).penalty(9, Text.NO_BREAK).breaksAt(1, 4)
                .passIs(4).tells(1, Text.EXCESS, 1000).linesOfItems(0, -1, -1, -1);
    }

    @Sentence(promise = 8, says = "the first line has all items up to b")
    static void firstLineDropsNothing() {
        new Text().glue(100, 0, 0, 0).penalty(9, Text.NO_BREAK).glue(200, 0, 0, 0).box(700).breaksAt(4).passIs(1)
                .linesOfItems(0, 0, 0, 0);
    }

    @Sentence(promise = 8, says = "the first line has all items up to b: without a box too")
    static void firstLineWithoutABoxHasItsGlue() {
        new Text().glue(1000, 0, 0, 0).breaksAt(1).passIs(1).linesOfItems(0);
    }

    @Sentence(promise = 8, says = "NATURAL .. and the width of b if that is a penalty")
    static void widthOfThePenaltyAtTheBreakCounts() {
        new Text().box(900).penalty(100, 0).box(1000).breaksAt(1, 3).passIs(1).tells(0, Text.EXCESS, 0);
        new Text().box(900).penalty(101, 0).box(1000).breaksAt(1, 3).overIs(1).tells(0, Text.EXCESS, -1);
    }

    @Sentence(promise = 8, says = "the sum of their boxes and glue: no penalties")
    static void widthOfAPenaltyWithinALineDoesNotCount() {
        new Text().box(400).penalty(100, 0).box(600).breaksAt(3).passIs(1).tells(0, Text.EXCESS, 0);
    }

    @Sentence(promise = 8, says = "up to b, b not being one of them")
    static void glueAtTheBreakDoesNotCount() {
        new Text().box(1000).glue(5, 6, 7, 8).box(1000).breaksAt(1, 3).passIs(1).tells(0, Text.EXCESS, 0);
        new Text().box(900).glue(0, 50, 50, 50).box(1000).breaksAt(1, 3).passIs(4).tells(0, Text.BADNESS, 10_000);
    }

    @Sentence(promise = 8, says = "Lines are numbered from 0 on; the EXCESS is the line's own width less NATURAL")
    static void eachLineHasItsOwnWidth() {
        new Text().width(0, 30).width(1, 20).width(2, 10).box(30).penalty(0, 0).box(20).penalty(0, 0).box(10)
                .breaksAt(1, 3, 5).passIs(1);
    }

    @Sentence(promise = 8, says = "IllegalState: there are no items")
    static void nothingIsNotBroken() {
        Check.fails("a new object", new OptimalLines()::breakUp, Check.STATE);
        Check.fails("a cleared one", new Text().box(1000).breaksAt(1).clear().lines::breakUp, Check.STATE);
    }

    @Sentence(promise = 8, says = "how many lines there are: again, if nothing was told")
    static void breakingAgainAnswersAlike() {
        new Text().box(1000).penalty(0, 7).box(1000).breaksAt(1, 3).demeritsAre(249).breaksAt(1, 3).demeritsAre(249)
                .passIs(1);
    }
}
