import java.util.function.LongSupplier;

/** One paragraph under test. What tells it something returns the text itself, and so does what checks an answer. */
final class Text {
    static final int LINE_PENALTY = 0;
    static final int DOUBLE = 1;
    static final int FINAL = 2;
    static final int ADJACENT = 3;
    static final int PRETOLERANCE = 4;
    static final int TOLERANCE = 5;
    static final int EMERGENCY = 6;
    static final int LOOSENESS = 7;

    static final int FIRST = 0;
    static final int BREAK = 1;
    static final int EXCESS = 2;
    static final int BADNESS = 3;
    static final int FITNESS = 4;

    static final int NO_BREAK = 10_000;
    static final int FORCED = -10_000;

    final OptimalLines lines = new OptimalLines();

    Text box(int width) {
        lines.box(width);
        return this;
    }

    Text glue(int width, int stretch, int shrink, int fill) {
        lines.glue(width, stretch, shrink, fill);
        return this;
    }

    Text penalty(int width, int cost) {
        lines.penalty(width, cost, false);
        return this;
    }

    Text flagged(int width, int cost) {
        lines.penalty(width, cost, true);
        return this;
    }

    Text penalties(int count, int cost) {
        for (int i = 0; i < count; i++) {
            penalty(0, cost);
        }
        return this;
    }

    Text clear() {
        lines.clear();
        return this;
    }

    Text width(int line, int width) {
        lines.width(line, width);
        return this;
    }

    Text set(int what, int v) {
        lines.setting(what, v);
        return this;
    }

    /** Leaves the emergency alone to break the text. */
    Text withoutPasses() {
        return set(PRETOLERANCE, -1).set(TOLERANCE, -1);
    }

    /** Three items that are so much narrower than 1000, with as much stretch and shrink as make r the excess. */
    Text slack(int excess) {
        return box(1000 - excess).penalty(0, NO_BREAK).glue(0, 297, 297, 0);
    }

    /** Three items that fill a line of any width above this one. */
    Text filled(int width) {
        return box(width).penalty(0, NO_BREAK).glue(0, 0, 0, 1);
    }

    Text breaksAt(int... ends) {
        Check.answers("breakUp()", lines::breakUp, ends.length);
        for (int k = 0; k < ends.length; k++) {
            tells(k, BREAK, ends[k]);
        }
        return this;
    }

    Text breaksInto(int count) {
        Check.answers("breakUp()", lines::breakUp, count);
        return this;
    }

    Text passIs(int due) {
        Check.answers("pass()", lines::pass, due);
        return this;
    }

    Text demeritsAre(long due) {
        Check.answers("demerits()", lines::demerits, due);
        return this;
    }

    Text overIs(int due) {
        Check.answers("over()", lines::over, due);
        return this;
    }

    Text tells(int k, int what, int due) {
        Check.answers("line(" + k + ", " + what + ")", () -> lines.line(k, what), due);
        return this;
    }

    Text linesOfItems(int... due) {
        for (int i = 0; i < due.length; i++) {
            int item = i;
            Check.answers("lineOf(" + item + ")", () -> lines.lineOf(item), due[item]);
        }
        return this;
    }

    Text placesOfItems(int... due) {
        for (int i = 0; i < due.length; i++) {
            int item = i;
            Check.answers("place(" + item + ")", () -> lines.place(item), due[item]);
        }
        return this;
    }

    /** A call of width as one that answers, so that its exception can be looked at. */
    LongSupplier telling(int line, int width) {
        return () -> {
            lines.width(line, width);
            return 0;
        };
    }
}
