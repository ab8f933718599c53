import com.sun.management.ThreadMXBean;
import java.lang.management.ManagementFactory;
import java.lang.reflect.Array;
import java.lang.reflect.Field;
import java.lang.reflect.Modifier;
import java.util.ArrayDeque;
import java.util.Collections;
import java.util.IdentityHashMap;
import java.util.Set;

/** One room for all calls: how much an object holds, and that its calls make nothing more. */
public final class RoomTest {
    private static final Due DUE = new Due("RoomTest");
    private static final int CALLS = 512;

    public static void main(String[] args) throws IllegalAccessException {
        TopTurned x = Due.with("p5-;p4+;p3-;p2+;p1-;l3;b1;c19;s01;");
        sizes(x);
        long before = made();
        for (int k = 0; k < CALLS; k++) {
            call(x, k);
        }
        long bytes = made() - before;
        DUE.holds("calls make nothing, but they made " + bytes + " bytes", bytes < 20000);
        sizes(x);
        DUE.end();
    }

    private static long made() {
        return ((ThreadMXBean) ManagementFactory.getThreadMXBean()).getCurrentThreadAllocatedBytes();
    }

    private static void sizes(TopTurned x) throws IllegalAccessException {
        Set<Object> seen = Collections.newSetFromMap(new IdentityHashMap<>());
        ArrayDeque<Object> open = new ArrayDeque<>();
        open.add(x);
        seen.add(x);
        long elements = 0;
        while (!open.isEmpty()) {
            Object o = open.poll();
            if (o.getClass().isArray()) {
                elements += Array.getLength(o);
                continue;
            }
            for (Field f : o.getClass().getDeclaredFields()) {
                if (Modifier.isStatic(f.getModifiers())) {
                    continue;
                }
                elements++;
                f.setAccessible(true);
                if (!f.getType().isPrimitive() && f.get(o) != null && seen.add(f.get(o))) {
                    open.add(f.get(o));
                }
            }
        }
        DUE.holds("few objects, but there are " + seen.size(), seen.size() <= 100);
        DUE.holds("small rows, but they have " + elements + " elements", elements <= 30000);
    }

    private static void call(TopTurned x, int k) {
        switch (k % 24) {
            case 0 -> x.letter('b');
            case 1 -> x.letter(k % 48 < 24 ? '0' : '1');
            case 2 -> x.letter(';');
            case 3 -> x.kitchen();
            case 4 -> x.law(k / 24 % 5);
            case 5 -> x.turn(0, 1 + k % 5);
            case 6 -> x.least();
            case 7 -> x.cheapest();
            case 8 -> x.ways();
            case 9 -> x.far(k % 9);
            case 10 -> x.worst(k % 5);
            case 11 -> x.before(4);
            case 12 -> x.next(k / 24 % 5);
            case 13 -> x.rule(k / 24 % 5);
            case 14 -> Due.rows(x, 0, 1, 2, 3, 4);
            case 15 -> x.path();
            case 16 -> x.row(3);
            case 17 -> x.judge();
            case 18 -> x.blind();
            case 19 -> x.fewest(-1);
            case 20 -> x.match();
            case 21 -> x.shuffled(30, k);
            case 22 -> x.image();
            default -> x.on();
        }
    }
}
