import com.sun.management.ThreadMXBean;
import java.lang.management.ManagementFactory;

/** All calls of a run live in one room: an object may make its rows, and its calls make nothing. */
public final class RoomTest {
    // An int for each letter, thirteen fleets of some 240 elements, and room to breathe.
    private static final long MOST_FOR_AN_OBJECT = 40000;
    private static final long MOST_FOR_CALLS = 4096;
    private static final String TEXT = "n6;w0 3;l0 30;l1 30;s0;s1;s2;s3;y0 1 0;y1 2 3;y2 0 1;y3 3 9;y4 9 4;y5 1 1;";
    private static final ThreadMXBean BEAN = (ThreadMXBean) ManagementFactory.getThreadMXBean();

    private static long sum = 0;

    public static void main(String[] args) {
        long thread = Thread.currentThread().getId();
        for (int warm = 0; warm < 20; warm++) {
            run(new WhoseShip());
        }
        long start = BEAN.getThreadAllocatedBytes(thread);
        WhoseShip x = new WhoseShip();
        long made = BEAN.getThreadAllocatedBytes(thread);
        run(x);
        long called = BEAN.getThreadAllocatedBytes(thread);
        System.out.println("an object: " + (made - start) + " bytes, its calls: " + (called - made)
            + " bytes (sum of answers " + sum + ")");
        if (made - start > MOST_FOR_AN_OBJECT || called - made > MOST_FOR_CALLS) {
            System.out.println("that is more than " + MOST_FOR_AN_OBJECT + " and " + MOST_FOR_CALLS);
            System.exit(1);
        }
    }

    private static void run(WhoseShip x) {
        for (int i = 0; i < TEXT.length(); i++) {
            sum += x.type(TEXT.charAt(i));
        }
        sum += x.port();
        for (int i = 0; i < 20; i++) {
            int s = i % 5;
            int law = i % 5;
            int k = i % 6;
            sum += x.fresh(k) + x.replace(s, 20 + i % 28) + x.build() + x.is(s, law) + x.now(i % 5);
            sum += x.twins(law) + x.becomes(s, law, i % 4, -1) + x.stays(s, law) + x.share(s, i % 4, 1);
            sum += x.decides(s, law) + x.thief(s, law, 1) + x.saw(k, i % 4) + x.mayBe() + x.leastSeen(s);
            sum += x.repairs(s, 40, 1) + x.rate(i % 6, i) + x.keep(i % 2) + x.place(k, 2) + x.part(i, 3);
            sum += i % 10 == 9 ? x.back(1) + x.undo() + x.forget() + x.year() + x.trace() : x.count(2);
        }
    }
}
