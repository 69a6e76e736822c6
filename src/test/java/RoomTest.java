import com.sun.management.ThreadMXBean;
import java.lang.management.ManagementFactory;

/** What the calls of a run make: nothing, for the constructor has made all rows. */
final class RoomTest {
    private static final int CALLS = 400;

    private RoomTest() {
    }

    public static void main(String[] args) {
        ThreadMXBean threads = (ThreadMXBean) ManagementFactory.getThreadMXBean();
        dearestCalls(toSeal(), toOpen());
        TwoSeals toSeal = toSeal();
        TwoSeals toOpen = toOpen();
        long before = threads.getCurrentThreadAllocatedBytes();
        dearestCalls(toSeal, toOpen);
        long made = threads.getCurrentThreadAllocatedBytes() - before;
        // One small array a call would be more than this; the measuring itself makes a little.
        Check.same("little is made by the calls (" + made + " bytes)", made < 4 * CALLS, true);
        Check.end();
    }

    private static TwoSeals toSeal() {
        return Check.filled(new byte[16], new byte[12], new byte[32], new byte[16]);
    }

    private static TwoSeals toOpen() {
        TwoSeals seals = Check.filled(new byte[16], new byte[12], new byte[32], new byte[48]);
        seals.seal(1);
        seals.take(Check.TEXT);
        return seals;
    }

    private static void dearestCalls(TwoSeals toSeal, TwoSeals toOpen) {
        for (int call = 0; call < CALLS; call += 4) {
            toSeal.seal(0);
            toSeal.seal(1);
            toSeal.hash(1);
            toSeal.block();
            toOpen.open(1);
        }
    }
}
