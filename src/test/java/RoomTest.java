import java.lang.management.ManagementFactory;
import java.lang.reflect.Array;
import java.lang.reflect.Field;
import java.lang.reflect.Modifier;
import java.util.IdentityHashMap;

/**
 * What is made has room: the dearest call, the making of an object too, times all calls that may be. What calls make
 * they make once and keep; they drop nothing.
 */
public final class RoomTest {
    private static final int CALLS = 512;
    private static final long MOST_OBJECTS = 600000;
    private static final long MOST_ELEMENTS = 7300000;
    private static final com.sun.management.ThreadMXBean THREADS =
            (com.sun.management.ThreadMXBean) ManagementFactory.getThreadMXBean();
    private static int wrong = 0;

    public static void main(String[] args) throws IllegalAccessException {
        CabinetBooks x = new CabinetBooks();
        Held fresh = new Held(x);
        fits("a new object", fresh.objects, fresh.elements);
        x.join(0, 1);
        Held joined = new Held(x);
        fits("its first joining", joined.objects - fresh.objects, joined.elements - fresh.elements);
        x.shelf(255);
        Held shelved = new Held(x);
        fits("its first row", shelved.objects - joined.objects, shelved.elements - joined.elements);
        callAll(x);
        Held used = new Held(x);
        if (used.objects != shelved.objects || used.elements != shelved.elements) {
            wrong++;
            System.out.println("other calls make and keep more");
        }
        nothingDropped(used.objects - fresh.objects, used.elements - fresh.elements);
        if (wrong != 0) {
            System.exit(1);
        }
    }

    private static void fits(String what, long objects, long elements) {
        System.out.println(what + ": " + objects + " objects, " + elements + " fields and elements");
        if (objects * CALLS > MOST_OBJECTS || elements * CALLS > MOST_ELEMENTS) {
            wrong++;
            System.out.println("that is too much for " + CALLS + " calls");
        }
    }

    /** The machine counts what calls make, kept or not; by now the classes are loaded, for which it makes things. */
    private static void nothingDropped(long objects, long elements) {
        long me = Thread.currentThread().getId();
        THREADS.getThreadAllocatedBytes(me);
        CabinetBooks x = new CabinetBooks();
        long start = THREADS.getThreadAllocatedBytes(me);
        int answers = callAll(x);
        long bytes = THREADS.getThreadAllocatedBytes(me) - start;
        System.out.println("all its calls: " + bytes + " bytes; sum of answers " + answers);
        if (bytes > 4 * elements + 24 * objects + 1000) {
            wrong++;
            System.out.println("that is more than they keep");
        }
    }

    /** What an object holds, with all that can be reached from it. */
    private static final class Held {
        private final IdentityHashMap<Object, Object> seen = new IdentityHashMap<>();
        long objects = 0;
        long elements = 0;

        Held(Object first) throws IllegalAccessException {
            look(first);
        }

        private void look(Object o) throws IllegalAccessException {
            if (o == null || seen.put(o, o) != null) {
                return;
            }
            objects++;
            if (o.getClass().isArray()) {
                lookAtArray(o);
                return;
            }
            for (Field f : o.getClass().getDeclaredFields()) {
                if (!Modifier.isStatic(f.getModifiers())) {
                    elements++;
                    f.setAccessible(true);
                    if (!f.getType().isPrimitive()) {
                        look(f.get(o));
                    }
                }
            }
        }

        private void lookAtArray(Object array) throws IllegalAccessException {
            elements += Array.getLength(array);
            if (!array.getClass().getComponentType().isPrimitive()) {
                for (int n = 0; n < Array.getLength(array); n++) {
                    look(Array.get(array, n));
                }
            }
        }
    }

    private static int callAll(CabinetBooks x) {
        int sum = 0;
        for (int n = 0; n < 40; n++) {
            sum += x.entry(n % 4, 1 + n % 3, 10 + n % 3, n % 2, 5);
        }
        sum += x.means(19, 3) + x.sense(19) + x.year(1, 1510) + x.set(0, 6);
        for (int n = 0; n < 30; n++) {
            sum += x.bar(0, n % 10, 1, n / 10) + x.like(0, n % 10, 1, n / 10) + x.join(0, 1);
            sum += x.joined(0, n % 10, 1) + x.bests(1, 0) + x.sure(0, n % 10, 2) + x.chain(0, n % 10, 234, n % 3);
            sum += x.copied(0, 1, n % 10) + x.sight(n % 12, n % 8, n, n) + x.move(n % 12, n % 8, n, n % 5, n);
        }
        for (int n = 0; n < 12; n++) {
            sum += x.withdraw(n % 2 == 0, n, 50) + x.where(n, 40, 50) + x.quarrels(n, 50);
            sum += x.holds(n, 40, 50, n % 3) + x.since(n, 40, 50) + x.visitor(n % 4, n, (n + 1) % 12, 5);
            sum += x.shelf(255) + x.row(255, n) + x.quarrel(255) + x.part(n, n % 6) + x.clash(n % 6, 5, true);
            sum += x.fake(1023) + x.least(1023) + x.count(n);
        }
        return sum;
    }
}
