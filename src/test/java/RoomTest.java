import com.sun.management.ThreadMXBean;
import java.lang.management.ManagementFactory;
import java.lang.reflect.Array;
import java.lang.reflect.Field;
import java.lang.reflect.Modifier;
import java.util.Collections;
import java.util.IdentityHashMap;
import java.util.Set;

/** What an object holds, and what its calls make: all calls of a run live in one room. */
public final class RoomTest {
    private static final int MOST_OBJECTS = 60;
    private static final int MOST_ELEMENTS = 26_000;
    private static final int TRIES = 20;

    private final Set<Object> seen = Collections.newSetFromMap(new IdentityHashMap<>());
    private int elements = 0;

    private RoomTest() {
    }

    public static void main(String[] args) throws IllegalAccessException {
        OptimalLines lines = new OptimalLines();
        checkRoom("a new object", lines);
        useAll(lines);
        checkRoom("a used object", lines);
        checkCalls(lines);
        Check.finish("RoomTest");
    }

    private static void checkRoom(String name, OptimalLines lines) throws IllegalAccessException {
        RoomTest room = new RoomTest();
        room.count(lines);
        Check.isTrue(name + " has few objects: " + room.seen.size(), room.seen.size() <= MOST_OBJECTS);
        Check.isTrue(name + " has few elements: " + room.elements, room.elements <= MOST_ELEMENTS);
    }

    private void count(Object one) throws IllegalAccessException {
        if (one == null || !seen.add(one)) {
            return;
        }
        if (one.getClass().isArray()) {
            elements += Array.getLength(one);
            return;
        }
        for (Field field : one.getClass().getDeclaredFields()) {
            if (!Modifier.isStatic(field.getModifiers())) {
                elements++;
                field.setAccessible(true);
                if (!field.getType().isPrimitive()) {
                    count(field.get(one));
                }
            }
        }
    }

    /** The machine makes things of its own now and then, so the least of several tries is what the calls make. */
    private static void checkCalls(OptimalLines lines) {
        ThreadMXBean threads = (ThreadMXBean) ManagementFactory.getThreadMXBean();
        long least = Long.MAX_VALUE;
        for (int i = 0; i < TRIES; i++) {
            long before = threads.getCurrentThreadAllocatedBytes();
            useAll(lines);
            least = Math.min(least, threads.getCurrentThreadAllocatedBytes() - before);
        }
        Check.answers("bytes that the calls make", Long.valueOf(least)::longValue, 0);
    }

    /** Every call of the face, and every pass. */
    private static void useAll(OptimalLines lines) {
        lines.clear();
        lines.width(0, 300);
        for (int i = 0; i < 60; i++) {
            lines.box(40 + i);
            lines.glue(20, 12, 8, 0);
            lines.box(30);
            lines.penalty(5, 50, true);
        }
        ask(lines, 10_000, 10_000, 0, 1);
        ask(lines, 0, 10_000, 0, 2);
        ask(lines, 0, 10, 100_000, 3);
        ask(lines, 0, 0, 0, 4);
    }

    private static void ask(OptimalLines lines, int pretolerance, int tolerance, int stretch, int pass) {
        lines.setting(Text.PRETOLERANCE, pretolerance);
        lines.setting(Text.TOLERANCE, tolerance);
        lines.setting(Text.EMERGENCY, stretch);
        lines.setting(Text.LOOSENESS, pass);
        int count = lines.breakUp();
        if (lines.pass() != pass) {
            Check.isTrue("pass " + pass + " is taken", false);
        }
        lines.demerits();
        lines.over();
        for (int k = 0; k < count; k++) {
            lines.line(k, k % 5);
            lines.lineOf(k);
            lines.place(k);
        }
    }
}
