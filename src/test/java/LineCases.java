/** Promises 11 and 12: what is told of a line, and how many are too long. */
final class LineCases {
    private LineCases() {
    }

    @Sentence(promise = 11, says = "what = 0 its first item")
    static void firstItemIsTold() {
        new Text().glue(0, 0, 0, 0).box(1000).glue(0, 0, 0, 0).penalty(0, Text.NO_BREAK).box(1000).breaksAt(2, 5)
                .tells(0, Text.FIRST, 0).tells(1, Text.FIRST, 4);
    }

    @Sentence(promise = 11, says = "its first item (its break, if it has none)")
    static void breakIsToldForTheFirstItemOfAnEmptyLine() {
        new Text().box(1000).penalty(0, Text.FORCED).glue(1, 1, 1, 1).penalty(0, Text.FORCED).box(1000)
                .breaksAt(1, 3, 5).tells(1, Text.FIRST, 3).tells(1, Text.BREAK, 3);
    }

    @Sentence(promise = 11, says = "its first item (its break, if it has none): the END")
    static void endIsToldForTheFirstItemOfAnEmptyLastLine() {
        new Text().box(1000).penalty(0, Text.FORCED).glue(1, 1, 1, 1).breaksAt(1, 3).tells(1, Text.FIRST, 3);
    }

    @Sentence(promise = 11, says = "its first item (its break, if it has none): the first line")
    static void firstLineMayBeEmpty() {
        new Text().penalty(3, Text.FORCED).box(1000).breaksAt(0, 2).tells(0, Text.FIRST, 0).tells(0, Text.EXCESS, 997)
                .tells(1, Text.FIRST, 1);
    }

    @Sentence(promise = 11, says = "1 its break")
    static void breakIsTold() {
        new Text().box(1000).penalty(0, 0).box(1000).breaksInto(2).tells(0, Text.BREAK, 1).tells(1, Text.BREAK, 3);
    }

    @Sentence(promise = 11, says = "2 EXCESS: above 0, 0, below 0")
    static void excessIsTold() {
        new Text().box(999).penalty(0, Text.FORCED).box(1000).penalty(0, Text.FORCED).box(1001).breaksAt(1, 3, 5)
                .tells(0, Text.EXCESS, 1).tells(1, Text.EXCESS, 0).tells(2, Text.EXCESS, -1);
    }

    @Sentence(promise = 11, says = "2 EXCESS: the least there is")
    static void excessMayBeFarBelow0() {
        Text text = new Text().width(0, 1);
        for (int i = 0; i < 400; i++) {
            text.box(100_000);
        }
        text.breaksAt(400).tells(0, Text.EXCESS, 1 - 40_000_000).tells(0, Text.BADNESS, 10_000);
    }

    @Sentence(promise = 11, says = "BADNESS. EXCESS 0: 0")
    static void noExcessIsNotBad() {
        new Text().box(1000).breaksAt(1).tells(0, Text.BADNESS, 0).tells(0, Text.FITNESS, 2).passIs(1);
    }

    @Sentence(promise = 11, says = "Above 0: 0 if FILL is above 0")
    static void fillIsNeverBad() {
        new Text().width(0, 1_000_000).glue(0, 0, 0, 1).breaksAt(1).tells(0, Text.BADNESS, 0).passIs(1);
        new Text().width(0, 1_000_000).glue(0, 1, 0, 1).breaksAt(1).tells(0, Text.BADNESS, 0).passIs(1);
    }

    @Sentence(promise = 11, says = "Above 0: else of EXCESS and STRETCH")
    static void badnessAbove0IsOfTheStretch() {
        new Text().glue(0, 297, 1, 0).width(0, 149).breaksAt(1).tells(0, Text.BADNESS, 13);
        new Text().glue(0, 297, 1, 0).width(0, 297).breaksAt(1).tells(0, Text.BADNESS, 100);
    }

    @Sentence(promise = 11, says = "Above 0: the least excess and the least of what there is")
    static void leastExcessAbove0() {
        new Text().filled(999).breaksAt(3).tells(0, Text.EXCESS, 1).tells(0, Text.BADNESS, 0);
        new Text().glue(0, 1, 0, 0).width(0, 1).breaksAt(1).tells(0, Text.EXCESS, 1).tells(0, Text.BADNESS, 100);
    }

    @Sentence(promise = 11, says = "STRETCH .. of its glue: of all of it, without what is dropped or is the break")
    static void stretchIsThatOfTheLinesGlue() {
        new Text().box(500).glue(0, 100, 0, 0).box(203).glue(0, 197, 0, 0).box(0).glue(0, 999, 0, 0)
                .penalty(0, Text.FORCED).box(1000).set(Text.TOLERANCE, 10_000)
                .set(Text.PRETOLERANCE, -1).breaksAt(6, 8).tells(0, Text.BADNESS, 1);
        new Text().withoutPasses().box(500).glue(0, 100, 0, 0).box(203).glue(0, 197, 0, 0).box(0)
                .penalty(0, Text.FORCED).glue(0, 999, 0, 0).box(1000).breaksAt(5, 8).tells(0, Text.BADNESS, 100);
    }

    @Sentence(promise = 11, says = "Badness of t and s is 10,000 if s is 0")
    static void nothingToStretchIsTheWorst() {
        new Text().box(999).breaksAt(1).tells(0, Text.BADNESS, 10_000).tells(0, Text.FITNESS, 0);
        new Text().box(999).penalty(0, Text.NO_BREAK).glue(0, 0, 100, 0).breaksAt(3).tells(0, Text.BADNESS, 10_000);
    }

    @Sentence(promise = 11, says = "r = t * 297 / s, rounded down")
    static void ratioIsRoundedDown() {
        new Text().glue(0, 297, 0, 0).width(0, 51).breaksAt(1).tells(0, Text.BADNESS, 1);
        new Text().glue(0, 298, 0, 0).width(0, 51).breaksAt(1).tells(0, Text.BADNESS, 0);
    }

    @Sentence(promise = 11, says = "10,000 if r is above 1290: not at 1290, nor between it and 1291")
    static void ratioOf1290IsNotTheWorst() {
        new Text().glue(0, 297, 0, 0).width(0, 1290).breaksAt(1).tells(0, Text.BADNESS, 8189);
        new Text().glue(0, 23_006, 0, 0).width(0, 100_000).breaksAt(1).tells(0, Text.BADNESS, 8189);
    }

    @Sentence(promise = 11, says = "10,000 if r is above 1290")
    static void ratioAbove1290IsTheWorst() {
        new Text().glue(0, 297, 0, 0).width(0, 1291).breaksAt(1).tells(0, Text.BADNESS, 10_000);
        new Text().glue(0, 1, 0, 0).width(0, 1_000_000).breaksAt(1).tells(0, Text.BADNESS, 10_000);
    }

    @Sentence(promise = 11, says = "(r * r * r + 131,072) / 262,144, rounded down")
    static void badnessIsRoundedDown() {
        int[] ratios = {1, 50, 51, 73, 74, 359, 594, 1000};
        int[] badness = {0, 0, 1, 1, 2, 176, 800, 3815};
        for (int i = 0; i < ratios.length; i++) {
            new Text().glue(0, 297, 0, 0).width(0, ratios[i]).breaksAt(1).tells(0, Text.BADNESS, badness[i]);
        }
    }

    @Sentence(promise = 11, says = "t * 297: more than an int holds")
    static void ratioOfLargeAmounts() {
        Text text = new Text();
        for (int i = 0; i < 150; i++) {
            text.glue(0, 0, 100_000, 0).box(100_000);
        }
        text.breaksAt(300).passIs(1).tells(0, Text.EXCESS, -14_999_000).tells(0, Text.BADNESS, 99);
    }

    @Sentence(promise = 11, says = "in the third pass, STRETCH and the emergency's")
    static void thirdPassHasTheEmergencysStretch() {
        new Text().box(500).set(Text.EMERGENCY, 1000).breaksAt(1).passIs(3).tells(0, Text.BADNESS, 12);
        new Text().slack(500).set(Text.EMERGENCY, 703).breaksAt(3).passIs(3).tells(0, Text.BADNESS, 12);
    }

    @Sentence(promise = 11, says = "in the third pass, STRETCH and the emergency's: not SHRINK, nor against FILL")
    static void thirdPassHasNoMoreShrinkOrFill() {
        new Text().set(Text.EMERGENCY, 1000).slack(-149).penalty(0, Text.FORCED).box(500).penalty(0, Text.FORCED)
                .filled(1).breaksAt(3, 5, 9).passIs(3).tells(0, Text.BADNESS, 13).tells(1, Text.BADNESS, 12)
                .tells(2, Text.BADNESS, 0).tells(0, Text.FITNESS, 3);
    }

    @Sentence(promise = 11, says = "with the emergency's stretch in the third pass: in no other")
    static void otherPassesHaveNoEmergencysStretch() {
        Text text = new Text().set(Text.EMERGENCY, 100_000).slack(297);
        text.breaksAt(3).passIs(1).tells(0, Text.BADNESS, 100);
        text.set(Text.PRETOLERANCE, -1).breaksAt(3).passIs(2).tells(0, Text.BADNESS, 100);
        text.set(Text.TOLERANCE, -1).breaksAt(3).passIs(4).tells(0, Text.BADNESS, 100).tells(0, Text.FITNESS, 0);
    }

    @Sentence(promise = 11, says = "with the emergency's stretch in the third pass: not in other passes behind it")
    static void emergencysStretchIsForgotten() {
        Text text = new Text().withoutPasses().set(Text.TOLERANCE, 99).set(Text.EMERGENCY, 100_000).slack(297);
        text.breaksAt(3).passIs(3).tells(0, Text.BADNESS, 0);
        text.set(Text.TOLERANCE, -1).breaksAt(3).passIs(4).tells(0, Text.BADNESS, 100);
        text.set(Text.TOLERANCE, 99).breaksAt(3).passIs(3).tells(0, Text.BADNESS, 0);
        text.set(Text.TOLERANCE, 100).breaksAt(3).passIs(2).tells(0, Text.BADNESS, 100);
    }

    @Sentence(promise = 11, says = "Below 0: 10,000 if the line is TOO LONG (-EXCESS is above SHRINK)")
    static void tooLongLineIsTheWorst() {
        new Text().slack(-298).breaksAt(3).tells(0, Text.BADNESS, 10_000).tells(0, Text.FITNESS, 3).overIs(1);
        new Text().box(1001).breaksAt(1).tells(0, Text.BADNESS, 10_000).tells(0, Text.FITNESS, 3).overIs(1);
    }

    @Sentence(promise = 11, says = "-EXCESS is above SHRINK: not if it is SHRINK")
    static void lineMayShrinkByAllItCan() {
        new Text().slack(-297).breaksAt(3).tells(0, Text.BADNESS, 100).tells(0, Text.FITNESS, 3).overIs(0).passIs(1);
    }

    @Sentence(promise = 11, says = "Below 0: else of -EXCESS and SHRINK: whatever stretch and fill there are")
    static void badnessBelow0IsOfTheShrink() {
        new Text().glue(0, 1, 297, 100).box(1149).breaksAt(2).tells(0, Text.BADNESS, 13).tells(0, Text.FITNESS, 3);
        new Text().glue(0, 9999, 0, 100).box(1001).breaksAt(2).tells(0, Text.BADNESS, 10_000).overIs(1);
    }

    @Sentence(promise = 11, says = "FITNESS: below 0: 3 if the badness is above 12, else 2")
    static void fitnessOfTightLines() {
        new Text().slack(-148).breaksAt(3).tells(0, Text.BADNESS, 12).tells(0, Text.FITNESS, 2);
        new Text().slack(-149).breaksAt(3).tells(0, Text.BADNESS, 13).tells(0, Text.FITNESS, 3);
    }

    @Sentence(promise = 11, says = "otherwise 2 up to 12")
    static void fitnessUpTo12() {
        new Text().slack(1).breaksAt(3).tells(0, Text.BADNESS, 0).tells(0, Text.FITNESS, 2);
        new Text().slack(148).breaksAt(3).tells(0, Text.BADNESS, 12).tells(0, Text.FITNESS, 2);
    }

    @Sentence(promise = 11, says = "1 up to 99")
    static void fitnessUpTo99() {
        new Text().slack(149).breaksAt(3).tells(0, Text.BADNESS, 13).tells(0, Text.FITNESS, 1);
        new Text().slack(296).breaksAt(3).tells(0, Text.BADNESS, 99).tells(0, Text.FITNESS, 1);
    }

    @Sentence(promise = 11, says = "else 0")
    static void fitnessFrom100On() {
        new Text().slack(297).breaksAt(3).tells(0, Text.BADNESS, 100).tells(0, Text.FITNESS, 0);
        new Text().box(0).breaksAt(1).tells(0, Text.BADNESS, 10_000).tells(0, Text.FITNESS, 0);
    }

    @Sentence(promise = 11, says = "2 .. (and with FILL)")
    static void fitnessWithFill() {
        new Text().filled(0).breaksAt(3).tells(0, Text.FITNESS, 2);
    }

    @Sentence(promise = 11, says = "IndexOutOfBounds: there is no such line")
    static void thereIsNoSuchLine() {
        OptimalLines x = new Text().box(1000).penalty(0, 0).box(1000).breaksAt(1, 3).lines;
        for (int k : new int[] {-1, Integer.MIN_VALUE, 2, 40, 41, Integer.MAX_VALUE}) {
            Check.fails("line(" + k + ", 0)", () -> x.line(k, 0), Check.INDEX);
        }
    }

    @Sentence(promise = 11, says = "IndexOutOfBounds: there is no such line: behind a breaking into fewer")
    static void linesOfAnOlderBreakingAreGone() {
        Text text = new Text().penalties(9, Text.FORCED).breaksInto(10).clear().box(1000).breaksAt(1);
        Check.fails("line(1, 0)", () -> text.lines.line(1, 0), Check.INDEX);
    }

    @Sentence(promise = 11, says = "IndexOutOfBounds: there is no such line, in the EMERGENCY")
    static void thereIsNoLineBehindTheEmergencys() {
        Text text = new Text().penalties(400, Text.FORCED).breaksInto(401).tells(400, Text.FIRST, 400);
        Check.fails("line(401, 0)", () -> text.lines.line(401, 0), Check.INDEX);
    }

    @Sentence(promise = 11, says = "IndexOutOfBounds: there is no such what")
    static void thereIsNothingElseToTell() {
        OptimalLines x = new Text().box(1000).breaksAt(1).lines;
        for (int what : new int[] {-1, Integer.MIN_VALUE, 5, Integer.MAX_VALUE}) {
            Check.fails("line(0, " + what + ")", () -> x.line(0, what), Check.INDEX);
        }
    }

    @Sentence(promise = 12, says = "How many lines are TOO LONG: none")
    static void noLineIsTooLong() {
        new Text().slack(-297).breaksAt(3).overIs(0);
        new Text().box(1000).breaksAt(1).overIs(0);
        new Text().box(0).breaksAt(1).passIs(4).overIs(0);
    }

    @Sentence(promise = 12, says = "How many lines are TOO LONG: some")
    static void someLinesAreTooLong() {
        new Text().box(1001).glue(0, 0, 0, 0).box(1000).glue(0, 0, 0, 0).box(1001).glue(0, 0, 0, 0).box(999)
                .breaksAt(1, 3, 5, 7).overIs(2);
    }

    @Sentence(promise = 12, says = "How many lines are TOO LONG: all")
    static void allLinesAreTooLong() {
        Text text = new Text();
        for (int i = 0; i < 200; i++) {
            text.box(1001).penalty(0, 0);
        }
        text.breaksInto(201).overIs(200);
    }

    @Sentence(promise = 12, says = "How many lines are TOO LONG: not those of an older breaking")
    static void tooLongLinesOfAnOlderBreakingAreGone() {
        new Text().box(1001).penalty(0, 0).box(1001).breaksAt(1, 3).overIs(2).width(0, 2002).width(1, 1000).breaksAt(3)
                .overIs(0);
    }

    @Sentence(promise = 12, says = "How many lines are TOO LONG: by the width of each")
    static void linesBehindTheFortiethAreTooLongByItsWidth() {
        Text text = new Text().width(40, 1);
        for (int i = 0; i < 60; i++) {
            text.box(10).penalty(0, Text.FORCED);
        }
        text.breaksInto(61).overIs(20);
    }
}
