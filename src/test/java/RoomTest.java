import com.sun.management.ThreadMXBean;
import java.lang.management.ManagementFactory;

/** What the calls of a run make: nothing, for the constructor has made all rows. */
final class RoomTest {
    private static final long CALLS = 512;

    private RoomTest() {
    }

    public static void main(String[] args) {
        ThreadMXBean threads = (ThreadMXBean) ManagementFactory.getThreadMXBean();
        TwoSeals seals = Check.filled(new byte[16], new byte[12], new byte[32], new byte[48]);
        dearestCalls(seals);
        long before = threads.getCurrentThreadAllocatedBytes();
        dearestCalls(seals);
        long made = threads.getCurrentThreadAllocatedBytes() - before;
        // One array a call would be more than this; the measuring itself makes a little.
        Check.same("little is made by the calls (" + made + " bytes)", made < 16 * CALLS, true);
        Check.end();
    }

    private static void dearestCalls(TwoSeals seals) {
        for (int call = 0; call < CALLS; call++) {
            seals.seal(call % 2);
            seals.hash(call % 2);
        }
    }
}
