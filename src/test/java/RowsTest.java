import com.sun.management.ThreadMXBean;
import java.lang.management.ManagementFactory;

/** "All memory is rows made once": no call makes anything, once the object has been made. */
public final class RowsTest {
    private static final ThreadMXBean THREADS = (ThreadMXBean) ManagementFactory.getThreadMXBean();
    /** So few that the optimizing compiler stays out: it could do without an object that the source makes. */
    private static final int LIVES = 4;

    public static void main(String[] args) {
        Check.isTrue("the machine counts bytes", THREADS.isThreadAllocatedMemoryEnabled());
        Check.isTrue("a new object is counted", leastBytes(true) > 0);
        Check.equal("bytes made by calls", 0, leastBytes(false));
        Check.end();
    }

    /** The least of a few, as the first use of a class or a method may make something of the machine's own. */
    private static long leastBytes(boolean withConstructor) {
        long least = Long.MAX_VALUE;
        for (int life = 0; life < LIVES; life++) {
            long before = THREADS.getCurrentThreadAllocatedBytes();
            ChargePlans plans = new ChargePlans();
            long made = THREADS.getCurrentThreadAllocatedBytes();
            allCalls(plans);
            long after = THREADS.getCurrentThreadAllocatedBytes();
            least = Math.min(least, withConstructor ? made - before : after - made);
        }
        return least;
    }

    private static void allCalls(ChargePlans plans) {
        for (int good = 0; good < 5; good++) {
            plans.good(10 + good, 5 * good, good == 4 ? 1 : 2);
            plans.element(good, good % 4, good, 100 * good);
            plans.limit(good, 2);
        }
        for (int heat = 0; heat < 4; heat++) {
            plans.heat(20, 40 + heat);
            plans.span(heat, heat, 0, 400);
            plans.most(heat, 3);
            plans.clash(heat);
            plans.bound(heat);
            plans.plan(heat, heat == 3 ? 20 : Yard.STEPS);
        }
        plans.planned(0);
        plans.planned(1);
        plans.amount(0, 0);
        plans.worst(0, 1, 1, 0);
        plans.worst(0, 1, 0, 1);
        plans.take(0);
        plans.arrive(4, 1);
        plans.stock(4);
        plans.span(1, 1, 10000, 10000);
        plans.clash(1);
    }
}
