import com.sun.management.ThreadMXBean;
import java.lang.management.ManagementFactory;

/** What a run of 512 calls makes stays far below the room that all calls of a run share. */
public final class RoomTest {
    private static final int CALLS = 512;
    private static final int RUNS = 50;
    /** The room holds some 600,000 objects; even the smallest has 16 bytes, so this is a twentieth of it. */
    private static final long MOST_BYTES = 480_000;
    private static final ThreadMXBean THREADS = (ThreadMXBean) ManagementFactory.getThreadMXBean();

    public static void main(String[] args) {
        Check c = new Check("RoomTest");
        for (int kind = 0; kind < 4; kind++) {
            long least = Long.MAX_VALUE;
            for (int run = 0; run < RUNS; run++) {
                long before = THREADS.getCurrentThreadAllocatedBytes();
                play(kind);
                least = Math.min(least, THREADS.getCurrentThreadAllocatedBytes() - before);
            }
            c.due("a run of kind " + kind + " takes " + least + " bytes, too much", least > MOST_BYTES, false);
        }
        c.end();
    }

    /** Runs of the calls that make the most: fetched and stored, hits and passed on, changes, ticks and probes. */
    private static void play(int kind) {
        FrontCache x = new FrontCache(40);
        Check.publish(x, "max-age=99", 1, 9, true);
        for (int i = 20; i < CALLS; i++) {
            if (kind == 0 && i % 3 == 0) {
                x.get(i % 2, i % 4, 0);
            } else if (kind == 1) {
                x.get(1, 0, 0);
            } else if (kind == 2 && i % 3 == 0) {
                x.put(1, 9);
            } else if (kind == 3) {
                x.tick();
                x.delete(i % 8);
                i++;
            } else {
                x.deliver(0);
            }
        }
    }
}
