import com.sun.management.ThreadMXBean;
import java.lang.management.ManagementFactory;

/** All calls of a run live in one room: calls on an object make no objects of their own. */
public final class RoomTest {
    private static final Due due = new Due("RoomTest");
    private static final int OBJECTS = 50;
    // Ten calls each, so that no object is used for more calls than the document promises.
    private static final int ROUNDS = 40;
    // Below the smallest object a round, and above what measuring itself takes.
    private static final long ALLOWED_BYTES = 8 * OBJECTS * ROUNDS;

    public static void main(String[] args) {
        ThreadMXBean threads = (ThreadMXBean) ManagementFactory.getThreadMXBean();
        EditedScanner[] scanners = new EditedScanner[OBJECTS];
        for (int i = 0; i < OBJECTS; i++) {
            scanners[i] = Samples.singles();
            useAll(scanners[i]);
        }
        long thread = Thread.currentThread().getId();
        long before = threads.getThreadAllocatedBytes(thread);
        for (EditedScanner x : scanners) {
            for (int i = 0; i < ROUNDS; i++) {
                useAll(x);
            }
        }
        long made = threads.getThreadAllocatedBytes(thread) - before;
        due.is("calls made " + made + " bytes, which is small", made < ALLOWED_BYTES, true);
        due.end();
    }

    private static void useAll(EditedScanner x) {
        x.arrow(0, 1, 1);
        x.kind(1, 1);
        x.edit(0, 0, 0x1111111111111111L, 16);
        x.edit(3, 2, 0x191L, 3);
        x.edit(3, 99, 0x191L, 3);
        x.token(0, 0);
        x.tokenAt(1);
        x.symbol(1);
        x.count(2);
        x.clear();
    }
}
