import com.sun.management.ThreadMXBean;
import java.lang.management.ManagementFactory;

/** All calls of a run live in one room: rows are made with the object, and no call makes any more. */
public final class RoomTest {
    /** A hundredth of the room, at some twelve bytes a field or element. */
    private static final long MOST_BYTES_AN_OBJECT = 876_000;
    private static final long MOST_BYTES_A_RUN = 100_000;

    public static void main(String[] args) {
        ThreadMXBean threads = (ThreadMXBean) ManagementFactory.getThreadMXBean();
        if (!threads.isThreadAllocatedMemorySupported()) {
            System.out.println("this machine does not tell what a thread makes");
            return;
        }
        // Once before it counts, for what the machine makes when it meets a method first.
        use(new GradientDesk());
        long start = threads.getCurrentThreadAllocatedBytes();
        GradientDesk desk = new GradientDesk();
        long made = threads.getCurrentThreadAllocatedBytes();
        use(desk);
        long used = threads.getCurrentThreadAllocatedBytes();
        Check.due("a new object has little", made - start < MOST_BYTES_AN_OBJECT ? 1 : 0, 1);
        Check.due("calls make little", used - made < MOST_BYTES_A_RUN ? 1 : 0, 1);
        Check.end();
    }

    private static void use(GradientDesk desk) {
        desk.type('a' | '*' << 8 | 'b' << 16, 3);
        desk.define(0);
        desk.set(0, 9998, 9999);
        desk.set(1, 9997, 9998);
        for (int k = 0; k < 60; k++) {
            desk.type('A' | '+' << 8 | '1' << 16 | '/' << 24 | (long) '2' << 32 | (long) '*' << 40 | (long) 'b' << 48, 7);
            desk.define(0);
            desk.derive(0, k % 3, 1);
            desk.gradient(0);
            desk.along(0, 1, 2, 3);
            desk.reckon(2, 0, 0, 1);
            desk.reckon(0, 6, 0, 6);
            desk.write(0);
        }
    }
}
