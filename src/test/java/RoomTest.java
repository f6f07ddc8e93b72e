import com.sun.management.ThreadMXBean;
import java.lang.management.ManagementFactory;

/** How much room a run takes: what the constructor makes, and next to nothing more in any call. */
public final class RoomTest {
    private static final Due DUE = new Due("RoomTest");
    private static final ThreadMXBean ROOM = (ThreadMXBean) ManagementFactory.getThreadMXBean();

    public static void main(String[] args) {
        used();
        new TowerFoot();
        long before = used();
        TowerFoot t = new TowerFoot();
        atMost("a new object", used() - before, 50_000);
        fill(t);
        t.image(0);
        t.image(1);
        callEach(new TowerFoot(), false);
        callEach(t, true);
        t.back(0);
        Calls.feedText(t, "quick 1" + "+1".repeat(49));
        before = used();
        t.law();
        atMost("a law", used() - before, 700);
        DUE.end();
    }

    /** The measure itself takes some tens of bytes, and more when it is new. */
    private static void callEach(TowerFoot t, boolean measured) {
        for (String[] call : Calls.FACE) {
            int[] numbers = new int[call[1].length()];
            long before = used();
            for (int i = 0; i < 8; i++) {
                Calls.call(t, call[0], numbers);
            }
            long bytes = used() - before;
            if (measured) {
                atMost("eight times " + call[0], bytes, 100);
            }
        }
    }

    private static void fill(TowerFoot t) {
        Calls.feedText(t, "quick 100+rise*2-trees;quick 50 if kind=4 and off<3");
        t.law();
        t.force(0);
        for (int i = 0; i < 5; i++) {
            t.tower(1 + i, 3 * i % 9 + 1, 1, 1, 5 + 6 * i);
        }
        for (int c = 0; c < 100; c++) {
            t.put(c, 2, 1 + c % 3);
        }
        for (int i = 0; i < 40; i++) {
            t.hours(i / 10, i % 10, 100);
        }
        for (int i = 0; i < 8; i++) {
            t.work(i % 2, i * 12, 3, 5);
            t.place(i * 8);
        }
        for (int use = 1; use <= 3; use++) {
            t.line(use, 0, 4);
        }
    }

    private static long used() {
        return ROOM.getThreadAllocatedBytes(Thread.currentThread().getId());
    }

    private static void atMost(String name, long bytes, long most) {
        DUE.due(name + ", " + bytes + " bytes", bytes <= most ? 1 : 0, 1);
    }
}
