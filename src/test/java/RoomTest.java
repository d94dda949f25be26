import com.sun.management.ThreadMXBean;
import java.lang.management.ManagementFactory;

/** All calls live in one room: a run makes no objects, and a new object is small. */
final class RoomTest {
    private static final int TIMES = 400;
    private static final ThreadMXBean THREADS =
        (ThreadMXBean) ManagementFactory.getThreadMXBean();

    private RoomTest() { }

    public static void main(String[] args) {
        runs();
        newObjects();
        Due.end();
    }

    private static long bytes() {
        return THREADS.getThreadAllocatedBytes(Thread.currentThread().getId());
    }

    private static void runs() {
        StoryClasses x = new StoryClasses();
        for (int t = 0; t < 12; t++) x.thing(t % 6);
        // Keeps, makes rows, brings back, and calls itself until that is too deep, again and again.
        int dear = Due.tell(x, 1, "27; 0 12; 15 3 7; 28; 0 5; 19 0 1; 20; 2 0; 10 1");
        x.guard(dear, 0, 6, 0, 7);
        x.run(dear, 0, 0);
        long before = bytes();
        long steps = 0;
        for (int k = 0; k < TIMES; k++) {
            x.run(dear, k, k);
            steps += x.told(3);
        }
        long made = bytes() - before;
        Due.holds("long runs: " + steps, steps > TIMES * 100L);
        Due.holds("runs made " + made + " bytes", made < 20000);
    }

    private static void newObjects() {
        StoryClasses x = new StoryClasses();
        long before = bytes();
        for (int k = 0; k < TIMES; k++) x = new StoryClasses();
        long made = (bytes() - before) / TIMES;
        Due.due("the last of them", x.count(0, 0), 0);
        Due.holds("a new object has " + made + " bytes", made < 20000);
    }
}
