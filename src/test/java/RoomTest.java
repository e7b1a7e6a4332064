import com.sun.management.ThreadMXBean;
import java.lang.management.ManagementFactory;

/** A whole run of the dearest calls makes no objects beyond those of the constructor. */
public final class RoomTest {
    private static final int CALLS = 512;
    private static final long MOST_BYTES_NEW = 40_000;
    private static final long MOST_BYTES_RUN = 4_000;

    private RoomTest() {
    }

    public static void main(String[] args) {
        Due.by("All calls of one run live in one room");
        ThreadMXBean threads = (ThreadMXBean) ManagementFactory.getThreadMXBean();
        long id = Thread.currentThread().getId();
        useUp(new WideNet(1));
        long before = threads.getThreadAllocatedBytes(id);
        WideNet net = new WideNet(2);
        long made = threads.getThreadAllocatedBytes(id);
        useUp(net);
        long after = threads.getThreadAllocatedBytes(id);
        System.out.println("a new object: " + (made - before) + " bytes; its calls: " + (after - made) + " bytes");
        Due.is("a new object is small", made - before <= MOST_BYTES_NEW, true);
        Due.is("the calls make nothing", after - made <= MOST_BYTES_RUN, true);
        Due.end();
    }

    private static void useUp(WideNet net) {
        net.join(0);
        net.hear(0, 0);
        net.tick(1);
        net.reach(1);
        net.lose(0);
        for (int call = 5; call < CALLS; call += 8) {
            net.queue(0, call, 8);
            net.send(0, call, 8, true, true);
            net.hear(0, call % 2);
            net.tick(1);
            net.reach(1);
            net.replay(0);
            net.lose(1);
            net.lose(0);
        }
    }
}
