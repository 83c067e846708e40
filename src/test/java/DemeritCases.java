/** Promise 10: the sum of demerits. */
final class DemeritCases {
    private DemeritCases() {
    }

    @Sentence(promise = 10, says = "(L + B)^2, L being the line penalty")
    static void linePenaltyAndBadnessAreSquared() {
        Text text = new Text().slack(149).breaksAt(3).demeritsAre(23 * 23);
        text.set(Text.LINE_PENALTY, 0).breaksAt(3).demeritsAre(13 * 13);
        text.set(Text.LINE_PENALTY, 1000).breaksAt(3).demeritsAre(1013 * 1013);
    }

    @Sentence(promise = 10, says = "(L + B)^2: of badness 10,000")
    static void worstBadnessIsSquared() {
        new Text().set(Text.PRETOLERANCE, 10_000).set(Text.LINE_PENALTY, 1000).set(Text.ADJACENT, 0).box(0)
                .breaksAt(1).demeritsAre(121_000_000);
    }

    @Sentence(promise = 10, says = "+ p^2, if p is 0 or more")
    static void costFrom0OnIsAdded() {
        twoLines(0).breaksAt(1, 3).demeritsAre(200);
        twoLines(1).breaksAt(1, 3).demeritsAre(201);
        twoLines(9999).breaksAt(1, 3).demeritsAre(200 + 99_980_001);
    }

    @Sentence(promise = 10, says = "- p^2, if it is below 0, but above -10,000")
    static void costBelow0IsTakenAway() {
        twoLines(-1).breaksAt(1, 3).demeritsAre(199);
        twoLines(-9999).breaksAt(1, 3).demeritsAre(200 - 99_980_001);
    }

    @Sentence(promise = 10, says = "but above -10,000")
    static void costOfMinus10000DoesNotCount() {
        twoLines(-10_000).breaksAt(1, 3).demeritsAre(200);
    }

    @Sentence(promise = 10, says = "the END .. whose cost is -10,000")
    static void costOfTheEndDoesNotCount() {
        new Text().box(1000).breaksAt(1).demeritsAre(100);
    }

    @Sentence(promise = 10, says = "Glue has the cost 0")
    static void glueCostsNothing() {
        new Text().box(1000).glue(9, 9, 9, 9).box(1000).breaksAt(1, 3).demeritsAre(200);
    }

    @Sentence(promise = 10, says = "The double demerits .. if its end and that of the line before it are flagged")
    static void doubleDemeritsNeedTwoFlaggedEnds() {
        lines(true, true).set(Text.DOUBLE, 7).set(Text.FINAL, 0).breaksAt(1, 3, 5).demeritsAre(307);
        lines(false, true).set(Text.DOUBLE, 7).set(Text.FINAL, 0).breaksAt(1, 3, 5).demeritsAre(300);
        lines(true, false).set(Text.DOUBLE, 7).set(Text.FINAL, 0).breaksAt(1, 3, 5).demeritsAre(300);
    }

    @Sentence(promise = 10, says = "The double demerits: for each such line")
    static void doubleDemeritsAreAddedEachTime() {
        lines(true, true, true, true).set(Text.DOUBLE, 7).set(Text.FINAL, 0).breaksAt(1, 3, 5, 7, 9)
                .demeritsAre(500 + 21);
    }

    @Sentence(promise = 10, says = "The double demerits: not for the first line, before which there is none")
    static void doubleDemeritsAreNotForTheFirstLine() {
        lines(true).set(Text.DOUBLE, 7).set(Text.FINAL, 0).breaksAt(1, 3).demeritsAre(200);
    }

    @Sentence(promise = 10, says = "the END .. is not flagged; Glue .. is not flagged")
    static void endAndGlueAreNotFlagged() {
        new Text().set(Text.DOUBLE, 7).set(Text.FINAL, 20).box(1000).flagged(0, 0).box(1000).glue(0, 0, 0, 0).box(1000)
                .breaksAt(1, 3, 5).demeritsAre(300);
        lines(true).set(Text.DOUBLE, 7).set(Text.FINAL, 20).breaksAt(1, 3).demeritsAre(220);
    }

    @Sentence(promise = 10, says = "the final ones, if it ends at the END and the line before it ends flagged")
    static void finalDemeritsNeedAFlaggedEndBefore() {
        lines(true).set(Text.FINAL, 7).breaksAt(1, 3).demeritsAre(207);
        lines(false).set(Text.FINAL, 7).breaksAt(1, 3).demeritsAre(200);
    }

    @Sentence(promise = 10, says = "the final ones, if it ends at the END: not elsewhere")
    static void finalDemeritsAreForTheLastLine() {
        lines(true, false).set(Text.FINAL, 7).breaksAt(1, 3, 5).demeritsAre(300);
    }

    @Sentence(promise = 10, says = "the final ones: not for a line that is the first")
    static void finalDemeritsAreNotForTheOnlyLine() {
        new Text().set(Text.FINAL, 7).flagged(0, Text.NO_BREAK).box(1000).breaksAt(2).demeritsAre(100);
    }

    @Sentence(promise = 10, says = "the final ones: behind a flagged break that is the last item")
    static void finalDemeritsAreForAnEmptyLastLine() {
        new Text().set(Text.PRETOLERANCE, -1).set(Text.TOLERANCE, 10_000).set(Text.FINAL, 7).set(Text.ADJACENT, 0)
                .box(1000).flagged(0, Text.FORCED).breaksAt(1, 2).passIs(2).demeritsAre(100 + 10_010 * 10_010 + 7);
    }

    @Sentence(promise = 10, says = "the line before it ends flagged: at the first item too")
    static void firstItemMayBeAFlaggedBreak() {
        new Text().set(Text.PRETOLERANCE, -1).set(Text.DOUBLE, 7).set(Text.FINAL, 20)
                .flagged(1000, Text.FORCED).box(1000).flagged(0, 0).box(1000).breaksAt(0, 2, 4).passIs(2)
                .demeritsAre(300 + 7 + 20);
    }

    @Sentence(promise = 10, says = "the adjacent ones .. (for the first line: from 2)")
    static void adjacentDemeritsOfTheFirstLine() {
        hasAdjacent(1, 297);
        hasAdjacent(0, 149);
        hasAdjacent(0, 0);
        hasAdjacent(0, -149);
    }

    @Sentence(promise = 10, says = "the adjacent ones, if its fitness differs by more than 1 from .. the line before")
    static void adjacentDemeritsOfALaterLine() {
        hasAdjacent(1, 149, -149);
        hasAdjacent(1, -149, 149);
        hasAdjacent(1, -149, 297);
        hasAdjacent(1, 0, 297);
    }

    @Sentence(promise = 10, says = "if its fitness differs by more than 1: not by 1 or 0")
    static void adjacentDemeritsAreNotForNearFitness() {
        hasAdjacent(0, 149, 297);
        hasAdjacent(1, 297, 149);
        hasAdjacent(0, 0, 149);
        hasAdjacent(0, -149, 0);
        hasAdjacent(0, -149, -149);
        hasAdjacent(1, 297, 297);
    }

    /** The line to item 9 is as bad from item 2 as from item 4, but what follows goes better with the latter. */
    @Sentence(promise = 10, says = "the adjacent ones: the least sum may go through a worse beginning")
    static void adjacentDemeritsMayOutweighABeginning() {
        new Text().width(0, 308).width(1, 300).width(2, 1000).glue(0, 0, 0, 1).box(10).penalty(0, 0).box(298)
                .penalty(0, 1).box(100).penalty(0, Text.NO_BREAK).glue(0, 297, 297, 0).box(51).penalty(0, Text.FORCED)
                .slack(297).breaksAt(4, 9, 13).demeritsAre(101 + 23 * 23 + 110 * 110);
    }

    @Sentence(promise = 10, says = "The sum of demerits: more than an int holds")
    static void sumMayBeLarge() {
        Text text = new Text().set(Text.PRETOLERANCE, 10_000).set(Text.LINE_PENALTY, 1000).set(Text.ADJACENT, 100_000);
        text.penalties(39, Text.FORCED).breaksInto(40).passIs(1).demeritsAre(40 * 121_000_000L + 100_000);
    }

    @Sentence(promise = 10, says = "The sum of demerits: less than an int holds")
    static void sumMayBeFarBelow0() {
        Text text = new Text();
        for (int k = 0; k < 39; k++) {
            text.box(1000).penalty(0, -9999);
        }
        text.box(1000).breaksInto(40).passIs(1).demeritsAre(40 * 100 - 39 * 99_980_001L);
    }

    @Sentence(promise = 10, says = "0 for the EMERGENCY")
    static void emergencyHasNoDemerits() {
        new Text().set(Text.LINE_PENALTY, 1000).box(999).flagged(0, 50).box(999).breaksAt(1, 3).passIs(4)
                .demeritsAre(0);
        Text text = lines(true, true).breaksAt(1, 3, 5).demeritsAre(300 + 15_000);
        text.withoutPasses().breaksAt(1, 3, 5).passIs(4).demeritsAre(0);
    }

    private static Text twoLines(int cost) {
        return new Text().box(1000).penalty(0, cost).box(1000);
    }

    /** Full lines, which end flagged or not, and a last one. */
    private static Text lines(boolean... flagged) {
        Text text = new Text();
        for (boolean one : flagged) {
            text.box(1000);
            text.lines.penalty(0, 0, one);
        }
        return text.box(1000);
    }

    /** Lines of fitness 0 at excess 297, 1 at 149, 2 at 0, and 3 at -149. */
    private static void hasAdjacent(int times, int... excesses) {
        Text text = new Text().set(Text.ADJACENT, 5).set(Text.LINE_PENALTY, 0);
        long sum = 5 * times;
        for (int k = 0; k < excesses.length; k++) {
            if (k > 0) {
                text.penalty(0, Text.FORCED);
            }
            text.slack(excesses[k]);
            long badness = excesses[k] == 0 ? 0 : excesses[k] == 297 ? 100 : 13;
            sum += badness * badness;
        }
        text.breaksInto(excesses.length).passIs(1).demeritsAre(sum);
    }
}
