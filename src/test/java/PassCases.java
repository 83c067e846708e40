/** Promises 8 and 9: which way is taken, and in which pass. */
final class PassCases {
    private PassCases() {
    }

    @Sentence(promise = 8, says = "FEASIBLE .. if no line is TOO LONG: whatever the tolerance")
    static void tooLongLineIsNeverFeasible() {
        Text text = new Text().set(Text.PRETOLERANCE, 10_000).set(Text.TOLERANCE, 10_000).set(Text.EMERGENCY, 100_000);
        text.box(1001).breaksAt(1).passIs(4);
        text.clear().slack(-297).breaksAt(3).passIs(1);
        text.clear().slack(-298).breaksAt(3).passIs(4);
    }

    @Sentence(promise = 8, says = "FEASIBLE .. if no line is TOO LONG: behind breaks at which it would be")
    static void lineMayFitAgainBehindABreak() {
        fittingAgain(new Text()).breaksAt(5).passIs(1).demeritsAre(14 * 14);
    }

    @Sentence(promise = 8, says = "FEASIBLE .. if no line is TOO LONG: whatever was broken before")
    static void lineMayFitAgainAfterAnotherText() {
        Text text = new Text().box(5000).glue(0, 0, 0, 0).box(5000).breaksAt(1, 3);
        fittingAgain(text.clear()).breaksAt(5).passIs(1).demeritsAre(14 * 14);
    }

    @Sentence(promise = 8, says = "the badness of each is at most the tolerance: the pretolerance")
    static void badnessMayBeThePretolerance() {
        Text text = new Text().slack(297).set(Text.TOLERANCE, -1);
        text.set(Text.PRETOLERANCE, 100).breaksAt(3).passIs(1);
        text.set(Text.PRETOLERANCE, 99).breaksAt(3).passIs(4);
    }

    @Sentence(promise = 8, says = "the badness of each is at most the tolerance")
    static void badnessMayBeTheTolerance() {
        Text text = new Text().slack(297).set(Text.PRETOLERANCE, -1);
        text.set(Text.TOLERANCE, 100).breaksAt(3).passIs(2);
        text.set(Text.TOLERANCE, 99).breaksAt(3).passIs(4);
    }

    @Sentence(promise = 8, says = "the badness of each is at most the tolerance: 10,000")
    static void worstBadnessIsFeasibleWith10000() {
        Text text = new Text().box(999).set(Text.PRETOLERANCE, -1);
        text.set(Text.TOLERANCE, 10_000).breaksAt(1).passIs(2);
        text.set(Text.TOLERANCE, 9999).breaksAt(1).passIs(4);
    }

    @Sentence(promise = 8, says = "the badness of each: the last line's too")
    static void lastLineMustBeFeasible() {
        new Text().box(1000).penalty(0, 0).box(900).breaksAt(1, 3).passIs(4);
    }

    @Sentence(promise = 8, says = "It has at most 40 lines: 40")
    static void fortyLinesAreFeasible() {
        forced(40).breaksInto(40).passIs(1);
    }

    @Sentence(promise = 8, says = "It has at most 40 lines: 41")
    static void fortyOneLinesAreNotFeasible() {
        forced(41).breaksInto(41).passIs(4);
    }

    @Sentence(promise = 8, says = "It has at most 40 lines: with a looseness too")
    static void loosenessKeepsToFortyLines() {
        Text text = new Text().set(Text.PRETOLERANCE, 10_000).penalties(29, Text.FORCED).penalties(25, 0);
        text.breaksInto(30);
        text.set(Text.LOOSENESS, 9).breaksInto(39).passIs(1);
        text.set(Text.LOOSENESS, 10).breaksInto(40).passIs(1);
        text.set(Text.LOOSENESS, 11).breaksInto(40).passIs(1);
        text.set(Text.LOOSENESS, 20).breaksInto(40).passIs(1);
    }

    @Sentence(promise = 8, says = "First pass: flagged penalties are no breaks")
    static void flaggedPenaltyIsNoBreakInTheFirstPass() {
        new Text().box(1000).flagged(0, 0).box(1000).breaksAt(1, 3).passIs(2);
        new Text().filled(500).flagged(0, -9000).filled(500).breaksAt(7).passIs(1).demeritsAre(100);
    }

    @Sentence(promise = 8, says = "First pass: flagged penalties are no breaks: not even one that forces")
    static void flaggedPenaltyForcesNothingInTheFirstPass() {
        new Text().box(500).flagged(0, Text.FORCED).box(500).breaksAt(3).passIs(1).linesOfItems(0, 0, 0);
    }

    @Sentence(promise = 8, says = "First pass: flagged penalties are no breaks: only those")
    static void firstPassIsForcedByPenaltiesThatAreNotFlagged() {
        new Text().box(400).flagged(100, Text.FORCED).box(600).penalty(0, Text.FORCED).box(1000).breaksAt(3, 5)
                .passIs(1).demeritsAre(200).linesOfItems(0, 0, 0, -1, 1).placesOfItems(0, 400, 400, -1, 0);
    }

    @Sentence(promise = 8, says = "Second: all")
    static void flaggedPenaltyIsABreakInTheSecondPass() {
        new Text().set(Text.PRETOLERANCE, -1).filled(500).flagged(0, -9000).filled(500).breaksAt(3, 7).passIs(2)
                .demeritsAre(100 - 81_000_000 + 100 + 5000);
    }

    @Sentence(promise = 8, says = "Second: all: one that forces, does")
    static void flaggedPenaltyForcesInTheSecondPass() {
        new Text().set(Text.PRETOLERANCE, -1).filled(500).flagged(0, Text.FORCED).filled(500).breaksAt(3, 7).passIs(2);
    }

    @Sentence(promise = 8, says = "First pass: the pretolerance. Second: the tolerance")
    static void secondPassMayBeStricterThanTheFirst() {
        new Text().set(Text.PRETOLERANCE, 10_000).set(Text.TOLERANCE, 0).box(999).breaksAt(1).passIs(1);
    }

    @Sentence(promise = 8, says = "Third, if the emergency's stretch is above 0")
    static void thirdPassNeedsAStretch() {
        Text text = new Text().withoutPasses().set(Text.TOLERANCE, 99).slack(297);
        text.set(Text.EMERGENCY, 0).breaksAt(3).passIs(4);
        text.set(Text.EMERGENCY, 1).breaksAt(3).passIs(3);
    }

    @Sentence(promise = 8, says = "Third: with it, the tolerance")
    static void thirdPassHasTheTolerance() {
        Text text = new Text().set(Text.PRETOLERANCE, 13).set(Text.EMERGENCY, 297).box(851);
        text.set(Text.TOLERANCE, 13).breaksAt(1).passIs(3);
        text.set(Text.TOLERANCE, 12).breaksAt(1).passIs(4);
    }

    @Sentence(promise = 8, says = "Third: all breaks, flagged ones too")
    static void thirdPassBreaksAtFlaggedPenalties() {
        new Text().set(Text.EMERGENCY, 100_000).box(999).flagged(0, 0).box(1000).breaksAt(1, 3).passIs(3);
    }

    @Sentence(promise = 8, says = "The first pass in which some way is feasible says what is taken")
    static void laterPassIsNotAskedForALesserSum() {
        Text text = new Text().set(Text.TOLERANCE, 10_000).set(Text.EMERGENCY, 100_000).filled(500).flagged(0, -9999)
                .filled(500);
        text.breaksAt(7).passIs(1).demeritsAre(100);
        text.set(Text.LOOSENESS, 1).breaksAt(7).passIs(1);
    }

    @Sentence(promise = 8, says = "the way with the least sum of demerits")
    static void leastSumIsTaken() {
        Text text = new Text().filled(100).penalty(0, 8).filled(100).penalty(0, 7).filled(100);
        text.breaksAt(11).demeritsAre(100);
        text.set(Text.LOOSENESS, 1).breaksAt(7, 11).demeritsAre(100 + 49 + 100);
    }

    /** Its first line is without badness up to item 5, but then nothing good follows. */
    @Sentence(promise = 8, says = "the way with the least sum of demerits: its first line may be a worse one")
    static void leastSumMayBeginWithAWorseLine() {
        new Text().set(Text.PRETOLERANCE, 10_000).slack(100).penalty(0, 0).box(100).penalty(0, 0).box(900)
                .breaksAt(3, 7).passIs(1).demeritsAre(14 * 14 + 100);
    }

    @Sentence(promise = 8, says = "with a LOOSENESS q: as many lines as is nearest to q more than that has")
    static void loosenessGivesMoreLines() {
        Text text = oneToFiveLines(0);
        int[] lines = {1, 2, 3, 4, 5, 5};
        for (int q = 0; q < lines.length; q++) {
            text.set(Text.LOOSENESS, q).breaksInto(lines[q]).passIs(1);
        }
        text.set(Text.LOOSENESS, 20).breaksInto(5);
    }

    @Sentence(promise = 8, says = "nearest to q more than that has: q below 0")
    static void loosenessBelow0GivesFewerLines() {
        Text text = oneToFiveLines(-50);
        int[] lines = {5, 4, 3, 2, 1, 1};
        for (int q = 0; q < lines.length; q++) {
            text.set(Text.LOOSENESS, -q).breaksInto(lines[q]).passIs(1);
        }
        text.set(Text.LOOSENESS, -20).breaksInto(1);
    }

    @Sentence(promise = 8, says = "q more than that has: than the way with the least sum")
    static void loosenessCountsFromTheBestWay() {
        Text text = oneToFiveLines(50).set(Text.LINE_PENALTY, 0);
        text.breaksInto(1);
        text.set(Text.LOOSENESS, 2).breaksInto(3).demeritsAre(5000);
        oneOrThreeLines(-50).set(Text.LOOSENESS, 1).breaksInto(3).demeritsAre(300 - 5000);
    }

    @Sentence(promise = 8, says = "of two such numbers the lesser: the best way's own")
    static void loosenessBetweenTakesTheLesserNumber() {
        Text text = oneOrThreeLines(0);
        text.breaksInto(1);
        text.set(Text.LOOSENESS, 1).breaksInto(1);
        text.set(Text.LOOSENESS, 2).breaksInto(3);
    }

    @Sentence(promise = 8, says = "of two such numbers the lesser: not the best way's own")
    static void loosenessBetweenLeavesTheGreaterNumber() {
        Text text = oneOrThreeLines(-50);
        text.breaksInto(3);
        text.set(Text.LOOSENESS, -1).breaksInto(1);
        text.set(Text.LOOSENESS, -2).breaksInto(1);
    }

    @Sentence(promise = 8, says = "of ways with as many lines the one with the least sum")
    static void loosenessTakesTheLeastSumOfItsWays() {
        new Text().set(Text.LOOSENESS, 1).filled(10).penalty(0, 30).filled(10).penalty(0, 20).filled(10)
                .penalty(0, 40).filled(10).breaksAt(7, 15).demeritsAre(100 + 400 + 100);
    }

    @Sentence(promise = 8, says = "Of several ways with the same sum: with fewer lines")
    static void sameSumFallsToFewerLines() {
        oneToFiveLines(0).set(Text.LINE_PENALTY, 0).breaksInto(1).demeritsAre(0);
        Text below = new Text().set(Text.LINE_PENALTY, 6).filled(10).penalty(0, -6).filled(10);
        below.breaksInto(1).demeritsAre(36);
    }

    @Sentence(promise = 8, says = "then that whose last break before the END is the lesser")
    static void sameSumFallsToTheLesserLastBreak() {
        oneToFiveLines(0).set(Text.LOOSENESS, 1).breaksAt(3, 19).demeritsAre(200);
    }

    @Sentence(promise = 8, says = "then the one before that, and so on")
    static void sameSumFallsToTheLesserBreakBefore() {
        Text text = oneToFiveLines(0).penalty(0, Text.FORCED).filled(10);
        text.breaksAt(19, 23).demeritsAre(200);
        text.set(Text.LOOSENESS, 1).breaksAt(3, 19, 23).demeritsAre(300);
        text.set(Text.LOOSENESS, 2).breaksAt(3, 7, 19, 23).demeritsAre(400);
    }

    /** Its ways end at 3, 5, 11 and at 1, 7, 11. */
    @Sentence(promise = 8, says = "whose last break before the END is the lesser, then the one before that")
    static void lastBreakGoesBeforeTheFirst() {
        Text text = new Text().width(0, 20).box(10).penalty(10, 0).box(5).penalty(5, 0);
        text.box(10).penalty(10, 0).box(5).penalty(0, 0).filled(10).breaksAt(3, 5, 11).demeritsAre(300);
    }

    /** The second line is as bad from item 2, where it shrinks, as from item 4, where it stretches. */
    @Sentence(promise = 8, says = "the lesser last break: of last lines of different fitness too")
    static void sameSumOfDifferentFitnessAtTheEnd() {
        new Text().glue(0, 0, 0, 1).box(10).penalty(0, 0).box(298).penalty(0, 0).box(100).penalty(0, Text.NO_BREAK)
                .glue(0, 297, 297, 0).box(51).width(0, 308).width(1, 300).set(Text.LOOSENESS, 1)
                .breaksAt(2, 9).demeritsAre(100 + 23 * 23).tells(1, Text.FITNESS, 3);
    }

    /** The same, with a line behind it that is as good after either. */
    @Sentence(promise = 8, says = "then the one before that: of lines of different fitness too")
    static void sameSumOfDifferentFitnessWithin() {
        new Text().glue(0, 0, 0, 1).box(10).penalty(0, 0).box(298).penalty(0, 0).box(100).penalty(0, Text.NO_BREAK)
                .glue(0, 297, 297, 0).box(51).penalty(0, Text.FORCED).box(7).width(0, 308).width(1, 300).width(2, 7)
                .breaksAt(2, 9, 11).demeritsAre(100 + 23 * 23 + 100);
    }

    @Sentence(promise = 8, says = "the lesser last break: a tighter last line comes from the greater one")
    static void sameSumOfATighterLineAtTheEnd() {
        tighterFromTheGreaterBreak(13).set(Text.LOOSENESS, 1).breaksAt(2, 11).demeritsAre(169);
    }

    @Sentence(promise = 8, says = "then the one before that: a tighter line comes from the greater one")
    static void sameSumOfATighterLineWithin() {
        tighterFromTheGreaterBreak(13).penalty(0, Text.FORCED).box(7).breaksAt(2, 11, 13).demeritsAre(169);
    }

    @Sentence(promise = 8, says = "the least sum: of last lines of different fitness")
    static void leastSumOfDifferentFitness() {
        tighterFromTheGreaterBreak(12).set(Text.LOOSENESS, 1).breaksAt(2, 11).demeritsAre(144);
        tighterFromTheGreaterBreak(14).set(Text.LOOSENESS, 1).breaksAt(6, 11).demeritsAre(169);
    }

    @Sentence(promise = 8, says = "EMERGENCY: each line ends at the last break at which it is not TOO LONG")
    static void emergencyTakesTheLastBreakThatFits() {
        new Text().withoutPasses().box(300).glue(0, 0, 0, 0).box(300).glue(0, 0, 0, 0).box(400).glue(0, 0, 0, 0)
                .box(1).breaksAt(5, 7).passIs(4).overIs(0);
    }

    @Sentence(promise = 8, says = "the last break at which it is not TOO LONG: behind others at which it is")
    static void emergencyPassesBreaksThatAreTooLong() {
        new Text().withoutPasses().box(600).glue(0, 0, 0, 0).box(600).glue(0, 0, 300, 0).box(100)
                .breaksAt(5).passIs(4).tells(0, Text.EXCESS, -300).overIs(0);
        new Text().withoutPasses().box(600).glue(0, 0, 0, 0).box(600).glue(0, 0, 299, 0).box(100)
                .breaksAt(1, 5).passIs(4).overIs(0);
    }

    @Sentence(promise = 8, says = "each line in turn ..: by its own width")
    static void emergencyBreaksEachLineByItsOwnWidth() {
        Text text = new Text().withoutPasses().width(0, 20).width(1, 10).width(2, 30);
        for (int i = 0; i < 6; i++) {
            text.box(10).penalty(0, 0);
        }
        text.box(1).breaksAt(3, 5, 11, 13).passIs(4).overIs(0);
    }

    @Sentence(promise = 8, says = "each line in turn ..: behind the fortieth, too, by its own width")
    static void emergencyBreaksLinesBehindTheFortieth() {
        Text text = new Text().withoutPasses().width(0, 10).width(40, 20);
        for (int i = 0; i < 50; i++) {
            text.box(10).penalty(0, 0);
        }
        text.box(1).breaksInto(46).tells(39, Text.BREAK, 79).tells(40, Text.BREAK, 83).tells(44, Text.BREAK, 99)
                .tells(45, Text.BREAK, 101).overIs(0);
    }

    @Sentence(promise = 8, says = "no forced one being passed")
    static void emergencyPassesNoForcedBreak() {
        new Text().withoutPasses().box(100).penalty(0, Text.FORCED).box(100).flagged(0, Text.FORCED).box(100)
                .breaksAt(1, 3, 5).passIs(4);
    }

    @Sentence(promise = 8, says = "no forced one being passed: though behind it the line would fit again")
    static void emergencyStopsAtAForcedBreakThatIsTooLong() {
        new Text().withoutPasses().box(600).glue(0, 0, 0, 0).box(600).penalty(0, Text.FORCED).glue(0, 0, 900, 0).box(1)
                .breaksAt(1, 3, 6).overIs(0);
    }

    @Sentence(promise = 8, says = "or if there is none, at the first one")
    static void emergencyTakesTheFirstBreakIfNoneFits() {
        new Text().withoutPasses().box(1001).glue(0, 0, 0, 0).box(1002).penalty(0, 50).box(1003).breaksAt(1, 3, 5)
                .passIs(4).overIs(3);
    }

    @Sentence(promise = 8, says = "at the first one: the END, if there is no other")
    static void emergencyTakesTheEndIfThereIsNoOther() {
        new Text().box(1000).box(1000).breaksAt(2).passIs(4).overIs(1);
    }

    @Sentence(promise = 8, says = "EMERGENCY: at flagged penalties too")
    static void emergencyBreaksAtFlaggedPenalties() {
        new Text().withoutPasses().box(600).flagged(0, 50).box(600).breaksAt(1, 3).passIs(4);
    }

    @Sentence(promise = 8, says = "without a limit of lines")
    static void emergencyHasNoLimitOfLines() {
        Text text = new Text().penalties(400, Text.FORCED).breaksInto(401).passIs(4);
        for (int k = 0; k <= 400; k++) {
            text.tells(k, Text.BREAK, k);
        }
    }

    @Sentence(promise = 9, says = "The pass that was taken, 1 to 3; 4 for the EMERGENCY")
    static void passIs1To4() {
        Text text = new Text().box(500);
        text.breaksAt(1).passIs(4);
        text.set(Text.EMERGENCY, 1000).breaksAt(1).passIs(3);
        text.set(Text.TOLERANCE, 10_000).breaksAt(1).passIs(2);
        text.set(Text.PRETOLERANCE, 10_000).breaksAt(1).passIs(1);
    }

    /** Its only line shrinks enough by what stands behind a break at which it would be too long. */
    private static Text fittingAgain(Text text) {
        return text.box(600).glue(0, 0, 0, 0).box(600).glue(0, 0, 900, 0).box(100);
    }

    private static Text forced(int lines) {
        Text text = new Text();
        for (int k = 1; k < lines; k++) {
            text.box(1000).penalty(0, Text.FORCED);
        }
        return text.box(1000);
    }

    /** Each of its penalties, items 3, 7, 11 and 15, may be a break or not; no line of it is bad. */
    private static Text oneToFiveLines(int cost) {
        Text text = new Text().filled(10);
        for (int k = 1; k < 5; k++) {
            text.penalty(0, cost).filled(10);
        }
        return text;
    }

    /** The line to item 11 has fitness 2 and badness 0 from item 2, and fitness 3 and badness 13 from item 6. */
    private static Text tighterFromTheGreaterBreak(int cost) {
        return new Text().set(Text.LINE_PENALTY, 0).width(0, 308).width(1, 300).width(2, 7).glue(0, 0, 0, 1).box(10)
                .penalty(0, cost).box(20).penalty(0, Text.NO_BREAK).glue(0, 0, 100_000, 0).penalty(0, 0).box(100)
                .penalty(0, Text.NO_BREAK).glue(0, 0, 297, 0).box(349);
    }

    /** Two lines are too long for it. */
    private static Text oneOrThreeLines(int cost) {
        return new Text().width(0, 40).width(1, 10).width(2, 20).glue(0, 0, 0, 1).box(10).penalty(0, cost).box(10)
                .penalty(0, cost).box(20);
    }
}
