import com.sun.management.ThreadMXBean;
import java.lang.management.ManagementFactory;

/**
 * That the calls of one run stay within the room that they have together (LANGUAGE 12): 600,000 objects and 7.3 million fields
 * and elements, here as bytes. Each method in turn makes all 512 calls of an object that holds as much as one can.
 */
public final class RoomTest {
    private static final int CALLS = 512;
    private static final long BYTES = 30_000_000;
    private static final String[] TEXTS = {"!(n2w(!w3)|l1m(s3(p2(x0(!d1)))))/e3,1&b9(r5,600)|x9(x9(x9(x9(x9(!w1)))))", "((((((w0", "w7"};
    private static final Checks CHECKS = new Checks();
    private static final ThreadMXBean THREADS = (ThreadMXBean) ManagementFactory.getThreadMXBean();

    /** Where the answers go, so that no call is left out by the machine. */
    private static int answers;

    public static void main(String[] args) {
        for (int method = 0; method < 20; method++) {
            long before = THREADS.getThreadAllocatedBytes(Thread.currentThread().getId());
            RecurringDays x = new RecurringDays();
            for (int call = 0; call < CALLS; call++) {
                answers += call(x, method, call);
            }
            long used = THREADS.getThreadAllocatedBytes(Thread.currentThread().getId()) - before;
            CHECKS.holds("LANGUAGE 12: " + CALLS + " calls of kind " + method + " take " + used + " bytes", used <= BYTES);
        }
        CHECKS.end("RoomTest");
    }

    private static int call(RecurringDays x, int method, int call) {
        if (call < 100) {
            return prepare(x, call);
        }
        switch (method) {
            case 0: return x.count(0, call % 9, 719);
            case 1: return x.merged(1023, 400);
            case 2: return x.whose(1023, 400);
            case 3: return x.busiest(0, 719, 0);
            case 4: return x.free(1023, 0, 99);
            case 5: return x.period(0);
            case 6: return x.gap(0);
            case 7: return x.unlike(0, 1);
            case 8: return x.clash(0, 9, 0);
            case 9: return x.copy(0, 1);
            case 10: return x.out(0, 5);
            case 11: return x.extra(0, 5);
            case 12: return x.lay(0, 0, 0, 0);
            case 13: return x.judge(0, 0, 0, 0);
            case 14: return x.move(0, 0, 0, 1, 29);
            case 15: return x.list(call % 4, 30);
            case 16: return x.image();
            case 17: return x.undo();
            case 18: return x.nth(0, 2, -1, 719);
            default: return told(x, call);
        }
    }

    /** A rule, three lists and THE IMAGE. */
    private static int prepare(RecurringDays x, int call) {
        if (call < TEXTS[0].length()) {
            return x.feed(TEXTS[0].charAt(call));
        }
        return call == TEXTS[0].length() ? x.rule(0) : call == 99 ? x.image() : x.list(call % 3, 30);
    }

    /** Texts one behind the other, with faults and without. */
    private static int told(RecurringDays x, int call) {
        String text = TEXTS[call / 100 % TEXTS.length];
        int place = call % (text.length() + 1);
        return place < text.length() ? x.feed(text.charAt(place)) : x.rule(1);
    }
}
