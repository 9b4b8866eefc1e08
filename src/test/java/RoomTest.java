import com.sun.management.ThreadMXBean;
import java.lang.management.ManagementFactory;

/** What a run makes: a few thousand bytes for an object, nothing for any of its calls. */
public final class RoomTest {
    private static final int CALLS_AT_MOST = 1000, OBJECT_AT_MOST = 20_000;

    private static final ThreadMXBean threads = (ThreadMXBean) ManagementFactory.getThreadMXBean();

    private static long made() {
        return threads.getCurrentThreadAllocatedBytes();
    }

    public static void main(String[] args) {
        FontRuns x = Due.withWriting(Due.FOUR, Due.MIXED);
        dearCalls(x);
        made();
        long before = made();
        x = new FontRuns();
        long ofObject = made() - before;
        x = Due.withWriting(Due.FOUR, Due.MIXED);
        before = made();
        dearCalls(x);
        long ofCalls = made() - before;
        System.out.println("an object: " + ofObject + " bytes, 3,500 calls: " + ofCalls + " bytes");
        if (ofObject > OBJECT_AT_MOST || ofCalls > CALLS_AT_MOST) {
            System.exit(1);
        }
    }

    private static void dearCalls(FontRuns x) {
        for (int times = 0; times < 100; times++) {
            x.fonts(0, 0, 0, 32);
            x.write(1, 2, 0, 13);
            for (int f = 0; f < 4; f++) {
                x.ofFont(f, f);
                x.width(f, 1 + times % 9);
                x.prefer(f);
                x.without(f);
                x.kinds(f);
                x.widths(f);
                x.odds(f, f % 2);
            }
            x.enough(1);
            x.best(3);
            x.reading(5);
            x.sheet(2, 1, 60);
            x.day(2, 1, 0, 20, 4);
        }
    }
}
