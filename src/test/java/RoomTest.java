import java.lang.management.ManagementFactory;

/** All that is made is made in the constructor, and it is little: no call makes an object or an array. */
public final class RoomTest {
    private static final long MOST_BYTES_OF_AN_OBJECT = 100000;
    private static final com.sun.management.ThreadMXBean THREADS =
            (com.sun.management.ThreadMXBean) ManagementFactory.getThreadMXBean();

    public static void main(String[] args) {
        long me = Thread.currentThread().getId();
        // The first time the machine itself makes things, when it loads the classes.
        callAll(new CabinetBooks());
        THREADS.getThreadAllocatedBytes(me);

        long start = THREADS.getThreadAllocatedBytes(me);
        CabinetBooks x = new CabinetBooks();
        long made = THREADS.getThreadAllocatedBytes(me);
        int answers = callAll(x);
        long called = THREADS.getThreadAllocatedBytes(me);

        System.out.println("an object: " + (made - start) + " bytes; its calls: " + (called - made)
                + " bytes; sum of answers " + answers);
        if (made - start > MOST_BYTES_OF_AN_OBJECT || called - made > 1000) {
            System.out.println("that is too much");
            System.exit(1);
        }
    }

    private static int callAll(CabinetBooks x) {
        int sum = 0;
        for (int n = 0; n < 40; n++) {
            sum += x.entry(n % 4, 1 + n % 3, 10 + n % 3, n % 2, 5);
        }
        sum += x.means(19, 3) + x.sense(19) + x.year(1, 1510) + x.set(0, 6);
        for (int n = 0; n < 30; n++) {
            sum += x.bar(0, n % 10, 1, n / 10) + x.like(0, n % 10, 1, n / 10) + x.join(0, 1);
            sum += x.joined(0, n % 10, 1) + x.bests(1, 0) + x.sure(0, n % 10, 2) + x.chain(0, n % 10, 234, n % 3);
            sum += x.copied(0, 1, n % 10) + x.sight(n % 12, n % 8, n, n) + x.move(n % 12, n % 8, n, n % 5, n);
        }
        for (int n = 0; n < 12; n++) {
            sum += x.withdraw(n % 2 == 0, n, 50) + x.where(n, 40, 50) + x.quarrels(n, 50);
            sum += x.holds(n, 40, 50, n % 3) + x.since(n, 40, 50) + x.visitor(n % 4, n, (n + 1) % 12, 5);
            sum += x.shelf(255) + x.row(255, n) + x.quarrel(255) + x.part(n, n % 6) + x.clash(n % 6, 5, true);
            sum += x.fake(1023) + x.least(1023) + x.count(n);
        }
        return sum;
    }
}
