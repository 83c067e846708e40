import java.util.ArrayList;
import java.util.Arrays;
import java.util.HashMap;
import java.util.List;
import java.util.Map;

/**
 * The document's words, taken one by one and without any cunning: what OptimalLines is compared with.
 * It lists whole ways to break. With merging it forgets, of ways that end alike after as many lines, all but the best.
 */
final class NaiveLines {
    private enum Kind { BOX, GLUE, PENALTY }

    private record Item(Kind kind, int width, int stretch, int shrink, int fill, int cost, boolean flagged) {
    }

    private record Way(int[] breaks, long sum, int fitness) {
        int lines() {
            return breaks.length;
        }

        int end() {
            return breaks.length == 0 ? -1 : breaks[breaks.length - 1];
        }
    }

    private final List<Item> items = new ArrayList<>();
    private final int[] widths = new int[41];
    private final int[] settings = {10, 10000, 5000, 10000, 100, 200, 0, 0};
    private final boolean merging;
    private int[] broken;
    private int passTaken;
    private long sumTaken;
    boolean hadTie;
    boolean hadLooseness;

    NaiveLines(boolean merging) {
        this.merging = merging;
        Arrays.fill(widths, 1000);
    }

    int box(int width) {
        argument(0 <= width && width <= 100000);
        return add(new Item(Kind.BOX, width, 0, 0, 0, 0, false));
    }

    int glue(int width, int stretch, int shrink, int fill) {
        argument(0 <= width && width <= 100000 && 0 <= stretch && stretch <= 100000);
        argument(0 <= shrink && shrink <= 100000 && 0 <= fill && fill <= 100);
        return add(new Item(Kind.GLUE, width, stretch, shrink, fill, 0, false));
    }

    int penalty(int width, int cost, boolean flagged) {
        argument(0 <= width && width <= 100000 && -10000 <= cost && cost <= 10000);
        return add(new Item(Kind.PENALTY, width, 0, 0, 0, cost, flagged));
    }

    int clear() {
        int had = items.size();
        items.clear();
        broken = null;
        return had;
    }

    void width(int line, int width) {
        argument(0 <= line && line <= 40 && 1 <= width && width <= 1000000);
        for (int k = line; k < 41; k++) {
            widths[k] = width;
        }
        broken = null;
    }

    int setting(int what, int v) {
        argument(0 <= what && what <= 7);
        switch (what) {
            case 0 -> argument(0 <= v && v <= 1000);
            case 1, 2, 3, 6 -> argument(0 <= v && v <= 100000);
            case 4, 5 -> argument(-1 <= v && v <= 10000);
            default -> argument(-20 <= v && v <= 20);
        }
        int was = settings[what];
        settings[what] = v;
        broken = null;
        return was;
    }

    int breakUp() {
        state(!items.isEmpty());
        hadTie = false;
        hadLooseness = false;
        Way way = null;
        for (int pass = 1; pass <= 3 && way == null; pass++) {
            if (pass < 3 || settings[6] > 0) {
                way = choose(waysToEnd(pass));
                passTaken = pass;
            }
        }
        if (way != null) {
            broken = way.breaks();
            sumTaken = way.sum();
        } else {
            emergency();
        }
        return broken.length;
    }

    int pass() {
        state(broken != null);
        return passTaken;
    }

    long demerits() {
        state(broken != null);
        return sumTaken;
    }

    int line(int k, int what) {
        state(broken != null);
        index(0 <= k && k < broken.length && 0 <= what && what <= 4);
        int a = k == 0 ? -1 : broken[k - 1];
        int b = broken[k];
        return switch (what) {
            case 0 -> first(a, b);
            case 1 -> b;
            case 2 -> excess(a, b, k);
            case 3 -> badness(a, b, k, passTaken == 3);
            default -> fitness(a, b, k, passTaken == 3);
        };
    }

    int over() {
        state(broken != null);
        int count = 0;
        for (int k = 0; k < broken.length; k++) {
            count += tooLong(k == 0 ? -1 : broken[k - 1], broken[k], k) ? 1 : 0;
        }
        return count;
    }

    int lineOf(int item) {
        state(broken != null);
        index(0 <= item && item < items.size());
        for (int k = 0; k < broken.length; k++) {
            int a = k == 0 ? -1 : broken[k - 1];
            for (int i = first(a, broken[k]); i < broken[k]; i++) {
                if (i == item) {
                    return k;
                }
            }
        }
        return -1;
    }

    int place(int item) {
        int k = lineOf(item);
        if (k == -1) {
            return -1;
        }
        int a = k == 0 ? -1 : broken[k - 1];
        int b = broken[k];
        int excess = excess(a, b, k);
        long part = 0;
        if (excess > 0 && sum(a, b, 'f') > 0) {
            part = excess * before(a, b, item, 'f') / sum(a, b, 'f');
        } else if (excess > 0 && sum(a, b, 's') > 0) {
            part = excess * before(a, b, item, 's') / sum(a, b, 's');
        } else if (excess < 0 && sum(a, b, 'k') > 0) {
            long atLeast = Math.max(excess, -sum(a, b, 'k'));
            part = -(-atLeast * before(a, b, item, 'k') / sum(a, b, 'k'));
        }
        return (int) (before(a, b, item, 'w') + part);
    }

    private int add(Item item) {
        state(items.size() < 400);
        items.add(item);
        broken = null;
        return items.size() - 1;
    }

    private boolean isBreak(int i, int pass) {
        if (i == items.size()) {
            return true;
        }
        Item item = items.get(i);
        return switch (item.kind()) {
            case BOX -> false;
            case GLUE -> i > 0 && items.get(i - 1).kind() == Kind.BOX;
            case PENALTY -> item.cost() < 10000 && !(pass == 1 && item.flagged());
        };
    }

    private int cost(int i) {
        return i == items.size() ? -10000 : items.get(i).cost();
    }

    private boolean flagged(int i) {
        return i >= 0 && i < items.size() && items.get(i).flagged();
    }

    private int first(int a, int b) {
        int i = a + 1;
        while (a >= 0 && i < b && items.get(i).kind() != Kind.BOX) {
            i++;
        }
        return i < b ? i : b;
    }

    private long sum(int a, int b, char what) {
        return before(a, b, b, what);
    }

    private long before(int a, int b, int item, char what) {
        long sum = 0;
        for (int i = first(a, b); i < item; i++) {
            Item x = items.get(i);
            sum += switch (what) {
                case 'w' -> x.kind() == Kind.PENALTY ? 0 : x.width();
                case 's' -> x.stretch();
                case 'k' -> x.shrink();
                default -> x.fill();
            };
        }
        return sum;
    }

    private int excess(int a, int b, int k) {
        boolean endsAtPenalty = b < items.size() && items.get(b).kind() == Kind.PENALTY;
        long natural = sum(a, b, 'w') + (endsAtPenalty ? items.get(b).width() : 0);
        return (int) (widths[k > 40 ? 40 : k] - natural);
    }

    private boolean tooLong(int a, int b, int k) {
        int excess = excess(a, b, k);
        return excess < 0 && -excess > sum(a, b, 'k');
    }

    private int badness(int a, int b, int k, boolean third) {
        int excess = excess(a, b, k);
        if (excess == 0) {
            return 0;
        }
        if (excess > 0) {
            return sum(a, b, 'f') > 0 ? 0 : badnessOf(excess, sum(a, b, 's') + (third ? settings[6] : 0));
        }
        return tooLong(a, b, k) ? 10000 : badnessOf(-excess, sum(a, b, 'k'));
    }

    private static int badnessOf(long t, long s) {
        if (s == 0) {
            return 10000;
        }
        long r = t * 297 / s;
        return r > 1290 ? 10000 : (int) ((r * r * r + 131072) / 262144);
    }

    private int fitness(int a, int b, int k, boolean third) {
        int badness = badness(a, b, k, third);
        if (excess(a, b, k) < 0) {
            return badness > 12 ? 3 : 2;
        }
        return badness <= 12 ? 2 : badness <= 99 ? 1 : 0;
    }

    private Way lengthen(Way way, int b, boolean third) {
        int a = way.end();
        int k = way.lines();
        long badness = badness(a, b, k, third);
        int fitness = fitness(a, b, k, third);
        long p = cost(b);
        long sum = (settings[0] + badness) * (settings[0] + badness);
        if (p >= 0) {
            sum += p * p;
        } else if (p > -10000) {
            sum -= p * p;
        }
        if (flagged(a) && flagged(b)) {
            sum += settings[1];
        }
        if (flagged(a) && b == items.size()) {
            sum += settings[2];
        }
        if (Math.abs(fitness - way.fitness()) > 1) {
            sum += settings[3];
        }
        int[] breaks = Arrays.copyOf(way.breaks(), k + 1);
        breaks[k] = b;
        return new Way(breaks, way.sum() + sum, fitness);
    }

    private List<Way> waysToEnd(int pass) {
        int tolerance = settings[pass == 1 ? 4 : 5];
        List<Way> ended = new ArrayList<>();
        List<Way> open = List.of(new Way(new int[0], 0, 2));
        for (int k = 0; k < 40 && !open.isEmpty(); k++) {
            List<Way> longer = new ArrayList<>();
            for (Way way : open) {
                boolean forced = false;
                for (int b = way.end() + 1; b <= items.size() && !forced; b++) {
                    if (!isBreak(b, pass)) {
                        continue;
                    }
                    forced = cost(b) <= -10000;
                    if (!tooLong(way.end(), b, k) && badness(way.end(), b, k, pass == 3) <= tolerance) {
                        (b == items.size() ? ended : longer).add(lengthen(way, b, pass == 3));
                    }
                }
            }
            if (longer.size() > 400000) {
                throw new UnsupportedOperationException("too many ways to list");
            }
            open = merging ? merged(longer) : longer;
        }
        return ended;
    }

    private List<Way> merged(List<Way> ways) {
        Map<Integer, Way> best = new HashMap<>();
        for (Way way : ways) {
            int key = way.end() * 4 + way.fitness();
            Way other = best.get(key);
            if (other == null || better(way, other)) {
                best.put(key, way);
            }
        }
        return new ArrayList<>(best.values());
    }

    private boolean better(Way x, Way y) {
        if (x.sum() != y.sum()) {
            return x.sum() < y.sum();
        }
        hadTie = true;
        if (x.lines() != y.lines()) {
            return x.lines() < y.lines();
        }
        for (int k = x.lines() - 1; k >= 0; k--) {
            if (x.breaks()[k] != y.breaks()[k]) {
                return x.breaks()[k] < y.breaks()[k];
            }
        }
        return false;
    }

    private Way choose(List<Way> ways) {
        Way best = bestOf(ways, 0);
        if (best == null || settings[7] == 0) {
            return best;
        }
        int wish = best.lines() + settings[7];
        int nearest = best.lines();
        for (Way way : ways) {
            int d = Math.abs(way.lines() - wish);
            int e = Math.abs(nearest - wish);
            if (d < e || d == e && way.lines() < nearest) {
                nearest = way.lines();
            }
        }
        hadLooseness = nearest != best.lines();
        return bestOf(ways, nearest);
    }

    private Way bestOf(List<Way> ways, int lines) {
        Way best = null;
        for (Way way : ways) {
            if ((lines == 0 || way.lines() == lines) && (best == null || better(way, best))) {
                best = way;
            }
        }
        return best;
    }

    private void emergency() {
        List<Integer> ends = new ArrayList<>();
        int a = -1;
        while (a < items.size()) {
            int chosen = -1;
            int nearest = -1;
            boolean forced = false;
            for (int b = a + 1; b <= items.size() && !forced; b++) {
                if (isBreak(b, 2)) {
                    nearest = nearest == -1 ? b : nearest;
                    chosen = tooLong(a, b, ends.size()) ? chosen : b;
                    forced = cost(b) <= -10000;
                }
            }
            a = chosen == -1 ? nearest : chosen;
            ends.add(a);
        }
        broken = ends.stream().mapToInt(Integer::intValue).toArray();
        passTaken = 4;
        sumTaken = 0;
    }

    private static void argument(boolean holds) {
        if (!holds) {
            throw new IllegalArgumentException();
        }
    }

    private static void state(boolean holds) {
        if (!holds) {
            throw new IllegalStateException();
        }
    }

    private static void index(boolean holds) {
        if (!holds) {
            throw new IndexOutOfBoundsException();
        }
    }
}
