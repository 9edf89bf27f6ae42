import com.sun.management.ThreadMXBean;
import java.lang.management.ManagementFactory;

/** All calls of a run live in one room: an object takes its rows when it is made, and its calls take nothing more. */
public final class RoomTest {
    private static final Dues DUES = new Dues();
    private static final long OBJECT_MOST = 1000000;
    private static final long CALLS_MOST = 100000;

    public static void main(String[] args) {
        ThreadMXBean threads = (ThreadMXBean) ManagementFactory.getThreadMXBean();
        dear(new NailStain());
        long before = threads.getCurrentThreadAllocatedBytes();
        NailStain x = new NailStain();
        long made = threads.getCurrentThreadAllocatedBytes();
        dear(x);
        long done = threads.getCurrentThreadAllocatedBytes();
        DUES.yes("an object takes " + (made - before) + " bytes", made - before <= OBJECT_MOST);
        DUES.yes("its calls take " + (done - made) + " bytes", done - made <= CALLS_MOST);
        DUES.end("RoomTest");
    }

    /** The dearest calls, each on a ship as great and as wide as can be. */
    private static void dear(NailStain x) {
        x.feed(0x79302831, 0x3d312920, 0, 0, 0);
        x.rule(7);
        x.build(24, 8);
        for (int s = 0; s < 8; s++) {
            for (int f = 0; f < 24; f++) {
                x.lies(f, s, 0, f * 37 % 50, 0);
                x.lies(f, s, 1, f * 37 % 50 + 60, 0);
            }
        }
        for (int k = 0; k < 3; k++) {
            x.drawing(1900 + k);
            x.draw(k, k, -k, 300);
        }
        for (int i = 0; i < 20; i++) {
            x.bury(1);
            x.volume(10, 0, 7);
            x.depth(10, 0, 2000000000);
            x.joints(7, 0, 900, 1);
            x.batten(3, 0, 5);
            x.off(0, 1, 20);
            x.slipped(0, 1, 2, 3, 4, 1);
            x.repairs(1, 2, 3);
            x.lasts(10000, 50);
            x.next(1);
            x.body(3, 2, 3);
            x.feed(1, 2, 3, 4, 5);
            x.check(0, 0, 5);
            x.feed(0x79302831, 0x3d312920, 0, 0, 0);
            x.rule(7);
        }
    }
}
