import com.sun.management.ThreadMXBean;
import java.lang.management.ManagementFactory;

/** All calls of a run share one room and nothing made is given back: so 512 dear calls may make little. */
public final class RoomTest {
    private static final long MOST_BYTES = 2L * 1024 * 1024;

    public static void main(String[] args) {
        ThreadMXBean bean = (ThreadMXBean) ManagementFactory.getThreadMXBean();
        long me = Thread.currentThread().getId();
        dearCalls();
        long before = bean.getThreadAllocatedBytes(me);
        int sum = dearCalls();
        long made = bean.getThreadAllocatedBytes(me) - before;
        System.out.println("bytes made by a run of 512 calls: " + made);
        Check.due("little is made: " + made, made < MOST_BYTES, true);
        Check.due("the run went on", sum != 0, true);
        before = bean.getThreadAllocatedBytes(me);
        int texts = manyTexts();
        made = bean.getThreadAllocatedBytes(me) - before;
        System.out.println("bytes made by 128 texts: " + made);
        Check.due("little is made: " + made, made < MOST_BYTES, true);
        Check.due("all texts were read", texts, 128);
        Check.end();
    }

    private static int dearCalls() {
        SpinStrip x = new SpinStrip();
        // "strip 4 4; seed 7;  "
        x.feed(0x73747269, 0x70203420, 0x343b2073, 0x65656420, 0x373b2020);
        x.read();
        int sum = 0;
        for (int k = 0; k < 36; k++) {
            x.glass(k);
            x.pin(k % 16, k % 3);
            x.hold(k % 3);
            sum += x.level(0, 1) + x.broken(12) + x.rows(2, 0, 0) + x.stuck(true) + x.pair(0, 5, 1, 0) + (int) x.joined(k % 3, 1, 1);
            sum += x.overlap(3) + x.nearest(0, 0) + x.wander(200, 3, 0) + x.stiff(1, 9) + x.count(10);
        }
        return sum;
    }

    private static int manyTexts() {
        SpinStrip x = new SpinStrip();
        int good = 0;
        for (int k = 0; k < 128; k++) {
            // "strip 4 4; " or "strip 2 4; " and blanks
            x.feed(0x73747269, k % 2 == 0 ? 0x70203420 : 0x70203220, 0x343b2020, 0x20202020, 0x20202020);
            good += x.read() == 0 ? 1 : 0;
            x.stuck(false);
            x.broken(0);
        }
        return good;
    }
}
