import java.util.function.LongSupplier;

/** What tells of lines that are not known, and calls that throw, for every promise that has such. */
final class RefusalCases {
    private static final int CHANGES = 8;
    private static final String UNKNOWN = "What tells of lines throws IllegalState when items, widths or settings were "
            + "told since the last breaking, or there was none";

    private RefusalCases() {
    }

    @Sentence(promise = 9, says = UNKNOWN)
    static void passNeedsABreaking() {
        needsABreaking(x -> x.pass());
    }

    @Sentence(promise = 10, says = UNKNOWN)
    static void demeritsNeedABreaking() {
        needsABreaking(x -> x.demerits());
    }

    @Sentence(promise = 11, says = UNKNOWN)
    static void lineNeedsABreaking() {
        needsABreaking(x -> x.line(0, 0));
    }

    @Sentence(promise = 12, says = UNKNOWN)
    static void overNeedsABreaking() {
        needsABreaking(x -> x.over());
    }

    @Sentence(promise = 13, says = UNKNOWN)
    static void lineOfNeedsABreaking() {
        needsABreaking(x -> x.lineOf(0));
    }

    @Sentence(promise = 14, says = UNKNOWN)
    static void placeNeedsABreaking() {
        needsABreaking(x -> x.place(0));
    }

    @Sentence(promise = 11, says = "where it lists more than one exception, the first one wins")
    static void lineLooksForABreakingFirst() {
        OptimalLines x = new Text().box(1000).lines;
        Check.fails("line(-1, 0)", () -> x.line(-1, 0), Check.STATE);
        Check.fails("line(1, 0)", () -> x.line(1, 0), Check.STATE);
        Check.fails("line(0, 5)", () -> x.line(0, 5), Check.STATE);
        Check.fails("line(0, -1)", () -> x.line(0, -1), Check.STATE);
    }

    @Sentence(promise = 13, says = "where it lists more than one exception, the first one wins")
    static void lineOfLooksForABreakingFirst() {
        OptimalLines x = new Text().box(1000).lines;
        Check.fails("lineOf(-1)", () -> x.lineOf(-1), Check.STATE);
        Check.fails("lineOf(1)", () -> x.lineOf(1), Check.STATE);
        Check.fails("without items", () -> new OptimalLines().lineOf(0), Check.STATE);
    }

    @Sentence(promise = 14, says = "where it lists more than one exception, the first one wins")
    static void placeLooksForABreakingFirst() {
        OptimalLines x = new Text().box(1000).lines;
        Check.fails("place(-1)", () -> x.place(-1), Check.STATE);
        Check.fails("place(1)", () -> x.place(1), Check.STATE);
        Check.fails("without items", () -> new OptimalLines().place(0), Check.STATE);
    }

    @Sentence(promise = 2, says = "A call that throws changes nothing")
    static void refusedBoxChangesNothing() {
        Text text = broken();
        changesNothing(text, () -> text.lines.box(-1), Check.ARGUMENT);
        changesNothing(text, () -> text.lines.box(100_001), Check.ARGUMENT);
    }

    @Sentence(promise = 3, says = "A call that throws changes nothing")
    static void refusedGlueChangesNothing() {
        Text text = broken();
        changesNothing(text, () -> text.lines.glue(-1, 0, 0, 0), Check.ARGUMENT);
        changesNothing(text, () -> text.lines.glue(0, -1, 0, 0), Check.ARGUMENT);
        changesNothing(text, () -> text.lines.glue(0, 0, -1, 0), Check.ARGUMENT);
        changesNothing(text, () -> text.lines.glue(0, 0, 0, 101), Check.ARGUMENT);
    }

    @Sentence(promise = 4, says = "A call that throws changes nothing")
    static void refusedPenaltyChangesNothing() {
        Text text = broken();
        changesNothing(text, () -> text.lines.penalty(-1, 0, true), Check.ARGUMENT);
        changesNothing(text, () -> text.lines.penalty(0, 10_001, true), Check.ARGUMENT);
    }

    @Sentence(promise = 2, says = "A call that throws changes nothing: IllegalState")
    static void boxRefusedByAFullObjectChangesNothing() {
        Text text = full();
        staysFull(text, () -> text.lines.box(5));
    }

    @Sentence(promise = 3, says = "A call that throws changes nothing: IllegalState")
    static void glueRefusedByAFullObjectChangesNothing() {
        Text text = full();
        staysFull(text, () -> text.lines.glue(5, 5, 5, 5));
    }

    @Sentence(promise = 4, says = "A call that throws changes nothing: IllegalState")
    static void penaltyRefusedByAFullObjectChangesNothing() {
        Text text = full();
        staysFull(text, () -> text.lines.penalty(5, 5, true));
    }

    @Sentence(promise = 6, says = "A call that throws changes nothing")
    static void refusedWidthChangesNothing() {
        Text text = broken();
        changesNothing(text, text.telling(-1, 5), Check.ARGUMENT);
        changesNothing(text, text.telling(41, 5), Check.ARGUMENT);
        changesNothing(text, text.telling(0, 0), Check.ARGUMENT);
        changesNothing(text, text.telling(0, 1_000_001), Check.ARGUMENT);
    }

    @Sentence(promise = 7, says = "A call that throws changes nothing")
    static void refusedSettingChangesNothing() {
        Text text = broken();
        changesNothing(text, () -> text.lines.setting(-1, 0), Check.ARGUMENT);
        changesNothing(text, () -> text.lines.setting(8, 0), Check.ARGUMENT);
        changesNothing(text, () -> text.lines.setting(Text.LINE_PENALTY, 1001), Check.ARGUMENT);
        Check.answers("the line penalty", () -> text.lines.setting(Text.LINE_PENALTY, 0), 10);
    }

    @Sentence(promise = 8, says = "A call that throws changes nothing")
    static void refusedBreakingChangesNothing() {
        Text text = new Text().width(0, 30).set(Text.LINE_PENALTY, 5);
        Check.fails("breakUp()", text.lines::breakUp, Check.STATE);
        Check.fails("pass()", text.lines::pass, Check.STATE);
        text.box(30).breaksAt(1).passIs(1).demeritsAre(25);
    }

    @Sentence(promise = 11, says = "A call that throws changes nothing")
    static void refusedLineChangesNothing() {
        Text text = broken();
        changesNothing(text, () -> text.lines.line(2, 0), Check.INDEX);
        changesNothing(text, () -> text.lines.line(0, 5), Check.INDEX);
    }

    @Sentence(promise = 13, says = "A call that throws changes nothing")
    static void refusedLineOfChangesNothing() {
        Text text = broken();
        changesNothing(text, () -> text.lines.lineOf(3), Check.INDEX);
    }

    @Sentence(promise = 14, says = "A call that throws changes nothing")
    static void refusedPlaceChangesNothing() {
        Text text = broken();
        changesNothing(text, () -> text.lines.place(-1), Check.INDEX);
    }

    private interface Asking {
        long of(OptimalLines x);
    }

    private static void needsABreaking(Asking asking) {
        OptimalLines fresh = new OptimalLines();
        Check.fails("without items", () -> asking.of(fresh), Check.STATE);
        fresh.box(1000);
        Check.fails("before a breaking", () -> asking.of(fresh), Check.STATE);
        for (int change = 0; change < CHANGES; change++) {
            OptimalLines x = broken().lines;
            Check.isTrue("it answers before change " + change, !Check.outcome(() -> asking.of(x)).startsWith("throws"));
            make(x, change);
            Check.fails("after change " + change, () -> asking.of(x), Check.STATE);
            if (change != 3) {
                x.breakUp();
                Check.isTrue("it answers after a breaking", !Check.outcome(() -> asking.of(x)).startsWith("throws"));
            }
        }
    }

    /** Telling what is so already is telling, too. */
    private static void make(OptimalLines x, int change) {
        switch (change) {
            case 0 -> x.box(1);
            case 1 -> x.glue(1, 1, 1, 1);
            case 2 -> x.penalty(1, 10_000, true);
            case 3 -> x.clear();
            case 4 -> x.width(0, 500);
            case 5 -> x.width(40, 1000);
            case 6 -> x.setting(Text.LINE_PENALTY, 11);
            default -> x.setting(Text.LOOSENESS, 0);
        }
    }

    private static Text broken() {
        return new Text().box(1000).penalty(0, 3).box(1000).breaksAt(1, 3);
    }

    private static void changesNothing(Text text, LongSupplier call, String due) {
        Check.fails("the refused call", call, due);
        text.passIs(1).demeritsAre(209).overIs(0).tells(1, Text.EXCESS, 0).linesOfItems(0, -1, 1);
        text.placesOfItems(0, -1, 0);
        Check.fails("lineOf(3)", () -> text.lines.lineOf(3), Check.INDEX);
        text.breaksAt(1, 3).passIs(1).demeritsAre(209);
    }

    private static Text full() {
        Text text = new Text().width(0, 400);
        for (int i = 0; i < 400; i++) {
            text.box(1);
        }
        return text.breaksAt(400);
    }

    private static void staysFull(Text text, LongSupplier call) {
        Check.fails("the refused call", call, Check.STATE);
        text.passIs(1).demeritsAre(100).tells(0, Text.EXCESS, 0).breaksAt(400).demeritsAre(100);
        Check.answers("place(399)", () -> text.lines.place(399), 399);
        Check.answers("clear()", text.lines::clear, 400);
    }
}
