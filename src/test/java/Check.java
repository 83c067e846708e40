import java.util.function.LongSupplier;

/** Compares answers with what is due, and ends a test. */
final class Check {
    static final String STATE = "throws.IllegalStateException";
    static final String ARGUMENT = "throws.IllegalArgumentException";
    static final String INDEX = "throws.IndexOutOfBoundsException";

    private static String heading = "";
    private static int wrong = 0;
    private static int asked = 0;

    private Check() {
    }

    /** What is found wrong from here on is told under this heading. */
    static void begin(String newHeading) {
        heading = newHeading + ": ";
    }

    /** The class's own name is told, so that an exception of the machine never passes for the document's. */
    static String outcome(LongSupplier call) {
        try {
            return Long.toString(call.getAsLong());
        } catch (RuntimeException e) {
            return "throws." + e.getClass().getSimpleName();
        }
    }

    static void answers(String label, LongSupplier call, long due) {
        same(label, outcome(call), Long.toString(due));
    }

    static void fails(String label, LongSupplier call, String due) {
        same(label, outcome(call), due);
    }

    static void same(String label, String got, String due) {
        asked++;
        if (!got.equals(due)) {
            wrong++;
            System.out.println(heading + label + " answered " + got + ", due is " + due);
        }
    }

    static boolean isTrue(String label, boolean holds) {
        same(label, Boolean.toString(holds), "true");
        return holds;
    }

    static int wrong() {
        return wrong;
    }

    static int asked() {
        return asked;
    }

    static void finish(String name) {
        System.out.println(name + ": " + asked + " answers, " + wrong + " not as due");
        if (wrong != 0) {
            System.exit(1);
        }
    }
}
