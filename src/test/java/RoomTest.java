import com.sun.management.ThreadMXBean;
import java.lang.management.ManagementFactory;

/**
 * What an object and all its 512 calls make, nothing of it taken back: it must stay far below the room
 * of 600,000 objects and 7.3 million fields (LANGUAGE.md, rule 12), however dear the calls are.
 */
public final class RoomTest extends LoomTest {
    // Some four times what one run with 60 things makes; things made anew in each run would be 25 times as many.
    private static final long BYTES = 100_000;

    private static final ThreadMXBean THREADS = (ThreadMXBean) ManagementFactory.getThreadMXBean();

    private static long made() {
        return THREADS.getThreadAllocatedBytes(Thread.currentThread().getId());
    }

    /** Each run makes 60 things, tells numbers, and has a failure at each step behind that. */
    private static void dearProgram(FaultLoom x) {
        x.put(1, 0, 12, 0);
        x.put(31, 0, 5, 0);
        x.put(67, 1, 0, 1);
        x.put(73, 0, 0, 0);
        x.put(27, 1, 0, 0);
        x.handler(0, 199, -1, 1);
    }

    /** All 512 calls: those that make the most, and some that are refused. */
    private static void oneObject() {
        FaultLoom x = new FaultLoom();
        dearProgram(x);
        for (int call = 6; call < 510; call += 4) {
            x.start();
            x.step(100);
            x.step(100);
            x.put(-1, 0, 0, 0);
        }
        due("60 things were made", x.state(5), 60);
        due("the 512th call: numbers told ahead of the 61st thing", x.state(6), 30);
    }

    public static void main(String[] args) {
        oneObject();
        // The second time, so that what Java itself makes at first (classes, texts) is not counted.
        long before = made();
        oneObject();
        long bytes = made() - before;
        due("bytes that one object and its 512 calls make: " + bytes, bytes > 0 && bytes <= BYTES, true);
        finish();
    }
}
