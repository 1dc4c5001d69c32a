import java.lang.management.ManagementFactory;
import java.lang.reflect.Array;
import java.lang.reflect.Field;
import java.lang.reflect.Modifier;
import java.util.ArrayDeque;
import java.util.Deque;
import java.util.IdentityHashMap;
import java.util.Map;

/** A run lives in one small room: a tick makes no object, and a new town is small. */
public final class RoomTest {
    private static int wrong = 0;

    private static void atMost(String what, long got, long most) {
        if (got > most) {
            wrong++;
            System.out.println(what + " is " + got + ", at most due is " + most);
        }
    }

    public static void main(String[] args) throws Exception {
        sizeOfANewTown();
        ticksMakeNothing();
        System.out.println(wrong == 0 ? "the room is large enough" : wrong + " are too large");
        if (wrong != 0) System.exit(1);
    }

    private static void sizeOfANewTown() throws Exception {
        Map<Object, Boolean> met = new IdentityHashMap<>();
        Deque<Object> open = new ArrayDeque<>();
        open.add(new TelephoneTown(16, 0));
        long elements = 0;
        while (!open.isEmpty()) {
            Object x = open.remove();
            if (met.put(x, true) != null) continue;
            if (x.getClass().isArray()) {
                int length = Array.getLength(x);
                elements += length;
                for (int i = 0; i < length && x instanceof Object[]; i++) {
                    if (Array.get(x, i) != null) open.add(Array.get(x, i));
                }
                continue;
            }
            for (Field f : x.getClass().getDeclaredFields()) {
                if (Modifier.isStatic(f.getModifiers())) continue;
                elements++;
                f.setAccessible(true);
                if (!f.getType().isPrimitive() && f.get(x) != null) open.add(f.get(x));
            }
        }
        System.out.println("a new town: " + met.size() + " objects, " + elements + " elements");
        atMost("objects of a new town", met.size(), 500);
        atMost("elements of a new town", elements, 8000);
    }

    /** A busy town: calls of all kinds, units that are spoiled and lost. */
    private static void ticksMakeNothing() {
        TelephoneTown x = new TelephoneTown(8, 0);
        for (int e = 0; e < 2; e++) {
            for (int i = 0; i < 8; i++) {
                x.key(2);
                x.key(i);
                x.plan(e, 2, 0, 8 * e + i, 0);
            }
            x.key(3);
            x.plan(e, 3, 1, 1, 1);
            x.key(7);
            x.plan(e, 1, 3, 0, 0);
            x.key(8);
            x.plan(e, 1, 4, 0, 0);
        }
        long before = allocated();
        for (int i = 0; i < 400; i++) {
            int line = i % 16;
            x.hook(line, i % 3 != 0);
            x.say(line, 17 * i);
            x.tick(2);
            x.dial(line, i % 5 == 0 ? 8 : i % 7 == 0 ? 7 : 3);
            x.dial(line, 2);
            x.dial(line, i % 8);
            x.spoil(i % 2, x.told(0) + 3, 20);
            x.lose(i % 2, x.told(0) + 5);
            x.tick(i % 90 + 1);
            x.bit(0, x.told(0) - 1, 12);
        }
        atMost("bytes that calls other than plan() make", allocated() - before, 20000);
    }

    private static long allocated() {
        return ((com.sun.management.ThreadMXBean) ManagementFactory.getThreadMXBean())
                .getThreadAllocatedBytes(Thread.currentThread().getId());
    }
}
