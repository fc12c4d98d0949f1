import java.lang.management.ManagementFactory;
import java.lang.reflect.Array;
import java.lang.reflect.Field;
import java.lang.reflect.Modifier;
import java.util.ArrayDeque;
import java.util.Collections;
import java.util.Deque;
import java.util.IdentityHashMap;
import java.util.Set;

/** All calls of one run live in one room: what an object holds is small, and a call that looks for something makes nothing. */
public final class RoomTest {
    private static final Check T = new Check("room");

    private static final int ROOM_OBJECTS = 600_000;
    private static final int ROOM_PARTS = 7_300_000;
    private static final int CALLS = 512;

    // what the measuring itself may make
    private static final long SLACK_BYTES = 2_000;

    private static final String FULL = "side(9, 50, 3, 2) ".repeat(16) + "sign(2, 100, 200, 1) ".repeat(60)
            + "piece(10, 11) ".repeat(7) + "text(3, NONE, NONE, 7, true) ".repeat(60) + "sung(2, 255, 3) tolerance(99) ";

    private static final String ASKED = "told(0, 8) best(0x3f, 3, 40) does(0x3f, 3, 40, 5) needed(0x3f, 3, 900) speed(2) "
            + "span(2) weighs(2, 100) quarrels(2) rows() misfit() inRow(6) counts(3, 3, 5, 9999) may(2, 5, 9999) "
            + "heard(5, 9999) days(0xffff, 5, 0, 9999) copies(0) clearest(0) total(5) "
            // these change something or are refused, and make nothing either
            + "hours(0, 7, 3) read(0, false) pass(1) drop(7) tolerance(98) sweep() sung(2, 1, 1) copy(1, 0) piece(1, 1) "
            + "side(1, 1, 1, 1) sign(0, 1, 1, 1) text(0, 0, 0, 0, true)";

    private final Set<Object> seen = Collections.newSetFromMap(new IdentityHashMap<>());
    private int parts;

    public static void main(String[] args) throws IllegalAccessException {
        anObjectForEachCallFits();
        askingMakesNothing();
        T.end();
    }

    /** Even a run that made a new object for each call, and filled each one, would fit. */
    private static void anObjectForEachCallFits() throws IllegalAccessException {
        RoomTest held = new RoomTest();
        held.count(Run.wax(FULL));
        T.holds(held.seen.size() + " objects of a full one", (long) held.seen.size() * CALLS < ROOM_OBJECTS);
        T.holds(held.parts + " fields and elements of a full one", (long) held.parts * CALLS < ROOM_PARTS);
    }

    private void count(Object root) throws IllegalAccessException {
        Deque<Object> open = new ArrayDeque<>();
        visit(root, open);
        while (!open.isEmpty()) {
            Object o = open.pop();
            if (o.getClass().isArray()) {
                countArray(o, open);
                continue;
            }
            for (Field f : o.getClass().getDeclaredFields()) {
                if (Modifier.isStatic(f.getModifiers())) continue;
                parts++;
                f.setAccessible(true);
                if (!f.getType().isPrimitive()) visit(f.get(o), open);
            }
        }
    }

    private void countArray(Object array, Deque<Object> open) {
        parts += Array.getLength(array);
        if (array instanceof Object[] objects) {
            for (Object o : objects) visit(o, open);
        }
    }

    private void visit(Object o, Deque<Object> open) {
        if (o != null && seen.add(o)) open.push(o);
    }

    private static void askingMakesNothing() {
        for (Run.Call c : Run.parse(ASKED)) {
            WaxVoices x = Run.wax(FULL);
            // the first calls load classes
            for (int i = 0; i < 10; i++) c.op().ask(x, c.arguments());
            long before = bytesMade();
            for (int i = 0; i < CALLS; i++) c.op().ask(x, c.arguments());
            long made = bytesMade() - before;
            T.holds(c.text() + " made " + made + " bytes", made <= SLACK_BYTES);
        }
    }

    private static long bytesMade() {
        return ((com.sun.management.ThreadMXBean) ManagementFactory.getThreadMXBean()).getCurrentThreadAllocatedBytes();
    }
}
