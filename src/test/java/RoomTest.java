import com.sun.management.ThreadMXBean;
import java.lang.management.ManagementFactory;

/** What 512 calls of the dearest kinds make stays within the room: some rows of the constructor, and no more. */
public final class RoomTest {
    private static final long MOST_BYTES = 400000;

    private static void useFully(RoutePlanner p) {
        for (int v = 0; v < 24; v++) {
            p.node(v * 7 % 24, v * 5 % 24);
        }
        for (int a = 0; a < 300; a++) {
            p.arc(a * 7 % 24, (a * 11 + a / 24) % 24, a * 37 % 101);
        }
        for (int v = 0; v < 4; v++) {
            p.landmark(v);
        }
        for (int k = 0; k < 20; k++) {
            p.prepare();
            p.query(k, 23 - k);
            p.landmarked(k, 23 - k);
            p.both(k, 23 - k);
            p.goal(k, 23 - k);
            p.bound(k, 23 - k);
            p.reached(k, 5);
            p.total(7);
            p.read();
        }
    }

    public static void main(String[] args) {
        ThreadMXBean threads = (ThreadMXBean) ManagementFactory.getThreadMXBean();
        long id = Thread.currentThread().getId();
        useFully(new RoutePlanner());
        long before = threads.getThreadAllocatedBytes(id);
        useFully(new RoutePlanner());
        long made = threads.getThreadAllocatedBytes(id) - before;
        System.out.println("a full run makes " + made + " bytes");
        Check.due("too many bytes", 0, made > MOST_BYTES ? 1 : 0);
        Check.finish("RoomTest");
    }
}
