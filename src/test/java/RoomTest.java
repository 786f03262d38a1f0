import java.lang.management.ManagementFactory;

/**
 * All calls of a run live in one room that is never tidied, so a call makes no objects: what 512
 * of the dearest calls make stays under what a single small row a call would take.
 */
public final class RoomTest {
    private static final com.sun.management.ThreadMXBean THREADS =
        (com.sun.management.ThreadMXBean) ManagementFactory.getThreadMXBean();

    private RoomTest() {
    }

    public static void main(String[] args) {
        long first = madeBy(new CheapParse());
        long second = madeBy(new CheapParse());
        Due.due("calls make no objects", Math.min(first, second) < 512 * 16 ? 1 : 0, 1);
        long before = made();
        CheapParse x = new CheapParse();
        long whole = made() - before;
        Due.due("an object is small", whole < 100000 ? 1 : 0, 1);
        Due.due("told(0)", x.told(0), 0);
        Due.end();
    }

    private static long made() {
        return THREADS.getThreadAllocatedBytes(Thread.currentThread().getId());
    }

    private static long madeBy(CheapParse x) {
        long before = made();
        x.fill('a', 250);
        x.fill('b', 249);
        x.limits(2, 255, 500);
        for (int k = 0; k < 46; k++) {
            x.price(0, 3, 1 + k);
            x.parse(k % 3);
            x.at(0, 3);
            x.at(400, 2);
            x.step(1, 1);
            x.told(3);
            x.write();
            x.written(3);
            x.load(0x000161L, 3);
            x.read();
            x.check();
        }
        return made() - before;
    }
}
