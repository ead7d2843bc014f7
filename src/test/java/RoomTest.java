import java.lang.management.ManagementFactory;
import java.lang.reflect.Array;
import java.lang.reflect.Field;
import java.lang.reflect.Modifier;
import java.util.ArrayDeque;
import java.util.Collections;
import java.util.Deque;
import java.util.IdentityHashMap;
import java.util.Random;
import java.util.Set;

/** How much room an object takes: its rows are made by the constructor, and no later call that answers makes more. */
public final class RoomTest {
    private static final int MOST_OBJECTS = 100;
    private static final int MOST_ELEMENTS = 20_000;

    private int objects = 0;
    private int elements = 0;

    public static void main(String[] args) throws IllegalAccessException {
        GridRipUp g = new GridRipUp(16, 16, 4, 3L);
        RoomTest fresh = new RoomTest();
        fresh.count(g);
        Check.due("few objects: " + fresh.objects, fresh.objects <= MOST_OBJECTS, true);
        Check.due("few fields and elements: " + fresh.elements, fresh.elements <= MOST_ELEMENTS, true);
        calls(g);
        RoomTest used = new RoomTest();
        used.count(g);
        Check.due("objects behind 512 calls", used.objects, fresh.objects);
        Check.due("fields and elements behind 512 calls", used.elements, fresh.elements);
        callsMakeNothing();
        Check.end();
    }

    private static long madeSoFar() {
        com.sun.management.ThreadMXBean threads =
                (com.sun.management.ThreadMXBean) ManagementFactory.getThreadMXBean();
        return threads.getThreadAllocatedBytes(Thread.currentThread().getId());
    }

    private static void callsMakeNothing() {
        GridRipUp g = new GridRipUp(16, 16, 4, 3L);
        madeSoFar();
        long idle = madeSoFar();
        idle = madeSoFar() - idle;
        long before = madeSoFar();
        long answers = calls(g);
        long made = madeSoFar() - before - idle;
        Check.due("the calls answered", answers != 0, true);
        // The source of random numbers and the asking itself make a few small objects; a row is far greater.
        Check.due("bytes made by 512 calls: " + made, made < 2_000, true);
    }

    /** Calls of every kind that answer, 512 in all. */
    private static long calls(GridRipUp g) {
        Random random = new Random(8);
        long sum = 0;
        int made = 0;
        for (int n = 0; n < 12; n++) {
            sum += g.net();
            made++;
        }
        while (made < 512) {
            int n = random.nextInt(12);
            int layer = random.nextInt(4);
            int i = random.nextInt(16);
            int j = random.nextInt(16);
            switch (made % 14) {
                case 0, 1, 2 -> sum += g.pin(n, layer, i, j) ? 1 : 0;
                case 3 -> sum += g.bar(layer, i, j) ? 1 : 0;
                case 4 -> sum += g.cost(layer, i, j, n) ? 1 : 0;
                case 5 -> sum += g.run(2);
                case 6 -> sum += g.joined(n) ? g.piece(n, 0, 1) : 0;
                case 7 -> sum += g.costOf(n) + g.ripped(n);
                case 8 -> sum += g.history(layer, i, j);
                case 9 -> sum += g.open(layer);
                case 10 -> sum += g.blocking(n, layer);
                case 11 -> sum += g.corridor(n, layer);
                case 12 -> sum += g.round();
                default -> sum += g.band(n) ? 1 : 0;
            }
            made++;
        }
        return sum;
    }

    /** Counts what can be reached from an object: objects and arrays, fields and elements. */
    private void count(Object first) throws IllegalAccessException {
        Set<Object> seen = Collections.newSetFromMap(new IdentityHashMap<>());
        Deque<Object> left = new ArrayDeque<>();
        left.add(first);
        while (!left.isEmpty()) {
            Object one = left.remove();
            if (seen.add(one)) {
                objects++;
                if (one.getClass().isArray()) {
                    countArray(one, left);
                } else {
                    countFields(one, left);
                }
            }
        }
    }

    private void countArray(Object array, Deque<Object> left) {
        elements += Array.getLength(array);
        if (array instanceof Object[] parts) {
            for (Object part : parts) {
                if (part != null) {
                    left.add(part);
                }
            }
        }
    }

    private void countFields(Object one, Deque<Object> left) throws IllegalAccessException {
        for (Field f : one.getClass().getDeclaredFields()) {
            if (!Modifier.isStatic(f.getModifiers())) {
                elements++;
                f.setAccessible(true);
                Object part = f.get(one);
                if (!f.getType().isPrimitive() && part != null) {
                    left.add(part);
                }
            }
        }
    }
}
