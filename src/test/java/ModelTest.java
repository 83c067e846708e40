import java.util.Random;

/** Promises 1 to 14: runs of calls, drawn from a fixed seed, must answer as the naive model does. */
public final class ModelTest {
    private static final int[] passes = new int[5];
    private static int ties = 0;
    private static int loosened = 0;
    private static int skipped = 0;

    private final Random random;
    private final OptimalLines real = new OptimalLines();
    private final NaiveLines model;
    private final String name;
    private int count = 0;

    private ModelTest(String name, long seed, boolean merging) {
        this.name = name + " " + seed;
        random = new Random(seed);
        model = new NaiveLines(merging);
    }

    public static void main(String[] args) {
        for (int seed = 0; seed < 15000 && Check.wrong() < 20; seed++) {
            new ModelTest("small", seed, false).small();
        }
        for (int seed = 0; seed < 1500 && Check.wrong() < 20; seed++) {
            new ModelTest("merged", seed, true).small();
            new ModelTest("text", seed, true).text(20 + seed % 60, 500 + seed % 7 * 100);
        }
        for (int seed = 0; seed < 40 && Check.wrong() < 20; seed++) {
            new ModelTest("long text", seed, true).text(380, 700 + seed * 100);
        }
        for (int seed = 0; seed < 300 && Check.wrong() < 20; seed++) {
            new ModelTest("many lines", seed, true).manyLines();
            new ModelTest("extremes", seed, true).extremes();
        }
        System.out.println("passes 1 to 4: " + passes[1] + " " + passes[2] + " " + passes[3] + " " + passes[4]
                + ", ties " + ties + ", loosened " + loosened + ", skipped " + skipped);
        for (int pass = 1; pass <= 4; pass++) {
            Check.isTrue("pass " + pass + " is met often", passes[pass] > 500);
        }
        Check.isTrue("ties are met often", ties > 1000);
        Check.isTrue("looseness is met often", loosened > 500);
        Check.isTrue("few runs are skipped", skipped < 20);
        Check.finish("ModelTest");
    }

    private int pick(int... of) {
        return of[random.nextInt(of.length)];
    }

    private void small() {
        boolean plain = random.nextBoolean();
        int rounds = 1 + random.nextInt(3);
        for (int round = 0; round < rounds; round++) {
            int more = random.nextInt(9);
            for (int i = 0; i < more && count < 14; i++) {
                plainItem(plain);
            }
            for (int i = random.nextInt(4); i > 0; i--) {
                anySetting();
            }
            for (int i = random.nextInt(4); i > 0; i--) {
                width(pick(0, 0, 1, 2, 3, 40), pick(1, 10, 20, 30, 40, 60, 100));
            }
            askAll();
            if (random.nextInt(4) == 0) {
                wrongCall();
                askAll();
            }
            if (random.nextInt(5) == 0) {
                same("clear()", Check.outcome(real::clear), Check.outcome(model::clear));
                count = 0;
            }
        }
    }

    private void plainItem(boolean plain) {
        switch (random.nextInt(plain ? 4 : 5)) {
            case 0, 1 -> box(plain ? 10 : pick(0, 1, 5, 10, 10, 20, 35));
            case 2 -> glue(pick(0, 5, 10), pick(0, 3, 10, 20), pick(0, 2, 5, 30), pick(0, 0, 0, 1, 2, 7));
            default -> penalty(pick(0, 0, 5, 40), plain ? pick(0, 0, -50, -10000)
                    : pick(0, 50, -50, 9999, -9999, 10000, -10000, 3), random.nextBoolean());
        }
    }

    private void anySetting() {
        switch (random.nextInt(8)) {
            case 0 -> setting(0, pick(0, 1, 10, 1000));
            case 1 -> setting(1, pick(0, 100, 10000, 100000));
            case 2 -> setting(2, pick(0, 100, 5000, 100000));
            case 3 -> setting(3, pick(0, 100, 10000, 100000));
            case 4 -> setting(4, pick(-1, 0, 100, 500, 10000));
            case 5 -> setting(5, pick(-1, 0, 200, 9999, 10000, 10000));
            case 6 -> setting(6, pick(0, 1, 15, 40, 300, 100000));
            default -> setting(7, pick(-20, -2, -1, 0, 1, 1, 2, 3, 20));
        }
    }

    private void text(int items, int lineWidth) {
        while (count < items) {
            box(50 * (1 + random.nextInt(6)));
            if (random.nextInt(5) == 0) {
                penalty(30, 50, true);
            } else if (random.nextInt(25) == 0) {
                penalty(0, -10000, random.nextInt(4) == 0);
            } else {
                glue(50, pick(25, 40), pick(17, 17, 120), random.nextInt(40) == 0 ? 1 : 0);
            }
        }
        box(100);
        penalty(0, 10000, false);
        glue(0, 0, 0, 1);
        width(0, lineWidth);
        if (random.nextBoolean()) {
            width(random.nextInt(6), lineWidth + 50 * random.nextInt(6));
        }
        setting(5, pick(200, 1000, 10000));
        setting(6, pick(0, 0, 100, 800));
        setting(4, pick(-1, 100, 200));
        askAll();
        setting(7, pick(-2, -1, 1, 2));
        askAll();
        setting(3, 0);
        setting(0, pick(0, 100));
        askAll();
    }

    private void manyLines() {
        int lines = 36 + random.nextInt(8);
        setting(pick(4, 5), 10000);
        for (int k = 0; k < lines - 1; k++) {
            if (random.nextInt(3) == 0) {
                box(pick(10, 50));
            }
            penalty(pick(0, 5), random.nextInt(12) == 0 ? pick(0, 30) : -10000, random.nextInt(5) == 0);
        }
        width(random.nextInt(41), pick(40, 60));
        askAll();
        setting(7, pick(-3, 3));
        askAll();
    }

    private void extremes() {
        int items = pick(20, 100, 400);
        while (count < items) {
            switch (random.nextInt(4)) {
                case 0, 1 -> box(pick(0, 50000, 100000, 100000));
                case 2 -> glue(pick(0, 100000), pick(0, 1, 100000), pick(0, 7, 100000), pick(0, 0, 0, 1, 100));
                default -> penalty(pick(0, 100000), pick(-9999, -3, 0, 9999, 10000), random.nextBoolean());
            }
        }
        width(0, pick(300000, 1000000));
        width(pick(1, 5, 40), pick(1, 500000, 1000000));
        setting(pick(4, 5), 10000);
        setting(6, pick(0, 100000));
        setting(pick(0, 1, 2, 3), 1000);
        askAll();
    }

    private void wrongCall() {
        int far = pick(Integer.MIN_VALUE, -1, 100001, 1000001, Integer.MAX_VALUE);
        switch (random.nextInt(8)) {
            case 0 -> box(far);
            case 1 -> glue(far, 0, 0, 0);
            case 2 -> glue(0, far, far, 0);
            case 3 -> glue(0, 0, 0, pick(-1, 101, far));
            case 4 -> penalty(0, pick(-10001, 10001), false);
            case 5 -> width(pick(-1, 41), 5);
            case 6 -> width(0, pick(0, -1, 1000001));
            default -> setting(pick(-1, 0, 1, 2, 3, 4, 5, 6, 7, 8), pick(-21, -2, 100001));
        }
    }

    private void box(int width) {
        String got = Check.outcome(() -> real.box(width));
        added("box(" + width + ")", got, Check.outcome(() -> model.box(width)));
    }

    private void glue(int width, int stretch, int shrink, int fill) {
        String got = Check.outcome(() -> real.glue(width, stretch, shrink, fill));
        added("glue(" + width + ", ..)", got, Check.outcome(() -> model.glue(width, stretch, shrink, fill)));
    }

    private void penalty(int width, int cost, boolean flagged) {
        String got = Check.outcome(() -> real.penalty(width, cost, flagged));
        added("penalty(" + width + ", ..)", got, Check.outcome(() -> model.penalty(width, cost, flagged)));
    }

    private void added(String call, String got, String due) {
        same(call, got, due);
        count += due.startsWith("throws") ? 0 : 1;
    }

    private void width(int line, int width) {
        String got = Check.outcome(() -> {
            real.width(line, width);
            return 0;
        });
        same("width(" + line + ", " + width + ")", got, Check.outcome(() -> {
            model.width(line, width);
            return 0;
        }));
    }

    private void setting(int what, int v) {
        String got = Check.outcome(() -> real.setting(what, v));
        same("setting(" + what + ", " + v + ")", got, Check.outcome(() -> model.setting(what, v)));
    }

    private void same(String call, String got, String due) {
        Check.same(name + ": " + call, got, due);
    }

    private void askAll() {
        if (random.nextInt(4) == 0) {
            askLines();
        }
        String due = Check.outcome(model::breakUp);
        if (due.equals("throws.UnsupportedOperationException")) {
            skipped++;
            return;
        }
        same("breakUp()", Check.outcome(real::breakUp), due);
        askLines();
        if (!due.startsWith("throws")) {
            passes[model.pass()]++;
            ties += model.hadTie ? 1 : 0;
            loosened += model.hadLooseness ? 1 : 0;
        }
    }

    private void askLines() {
        same("pass()", Check.outcome(real::pass), Check.outcome(model::pass));
        same("demerits()", Check.outcome(real::demerits), Check.outcome(model::demerits));
        same("over()", Check.outcome(real::over), Check.outcome(model::over));
        String lines = Check.outcome(() -> model.line(0, 0));
        int most = lines.startsWith("throws") ? 1 : count + 2;
        for (int k = -1; k < most; k++) {
            for (int what = -1; what <= 5; what++) {
                int line = k;
                int of = what;
                same("line(" + line + ", " + of + ")", Check.outcome(() -> real.line(line, of)),
                        Check.outcome(() -> model.line(line, of)));
            }
        }
        for (int i = -1; i <= count; i++) {
            int item = i;
            same("lineOf(" + item + ")", Check.outcome(() -> real.lineOf(item)),
                    Check.outcome(() -> model.lineOf(item)));
            same("place(" + item + ")", Check.outcome(() -> real.place(item)),
                    Check.outcome(() -> model.place(item)));
        }
    }
}
