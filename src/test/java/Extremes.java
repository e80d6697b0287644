import com.sun.management.ThreadMXBean;
import java.lang.management.ManagementFactory;

/**
 * Every call with any numbers, in any state: none may throw, none may fail to end; an object takes
 * little room, and its calls take none.
 */
public final class Extremes {
    private static final int[] NUMBERS = {
        Integer.MIN_VALUE, Integer.MIN_VALUE + 1, -1_000_000_001, -1000, -7, -2, -1, 0, 0, 1, 1, 2, 2, 3, 3, 4, 5, 6, 7,
        9, 10, 11, 12, 13, 20, 21, 30, 31, 60, 61, 99, 100, 380, 400, 401, 999, 1000, 3600, 3601, 1_000_000, 1_000_001,
        0x62617273, 0x74697265, 0x73202020, Integer.MAX_VALUE - 1, Integer.MAX_VALUE};
    private static final long MOST_FOR_AN_OBJECT = 1_000_000;
    /** What the measuring itself may take. */
    private static final long MOST_FOR_ITS_CALLS = 10_000;
    private static final ThreadMXBean THREADS = (ThreadMXBean) ManagementFactory.getThreadMXBean();
    private static long state = 1;

    private static int draw() {
        state = state * 6364136223846793005L + 1442695040888963407L;
        return (int) (state >>> 33) & 0x3fffffff;
    }

    private static int any() {
        return draw() % 3 == 0 ? draw() % 5 : NUMBERS[draw() % NUMBERS.length];
    }

    private static int call(HillSchool x, int which) {
        switch (which) {
            case 0: return x.column();
            case 1: return x.stone(any(), any());
            case 2: return x.lift(any());
            case 3: return x.of(any(), any());
            case 4: return x.weight(any());
            case 5: return x.child(any());
            case 6: return x.expel(any(), any());
            case 7: return x.fact(any(), any());
            case 8: return x.parish(any());
            case 9: return x.terms(any(), any());
            case 10: return x.feed(any(), any(), any(), any(), any());
            case 11: return x.end(any());
            case 12: return x.row();
            case 13: return x.gravel();
            case 14: return x.law();
            case 15: return x.fault();
            case 16: return x.force(any());
            case 17: return x.can(any(), any(), any());
            case 18: return x.tires(any(), any(), any());
            case 19: return x.carry(any(), any(), any());
            case 20: return x.exchange(any(), any(), any(), any());
            case 21: return x.steep();
            case 22: return x.slide();
            case 23: return x.shade(any());
            case 24: return x.gains(any(), any(), any(), any());
            case 25: return x.goal(any(), any());
            case 26: return x.plan(any(), any(), any());
            case 27: return x.weighs(any());
            case 28: return x.trips(any(), any());
            case 29: return x.culprits(any(), any(), any());
            case 30: return x.duel(any(), any(), any());
            case 31: return x.layers(any());
            case 32: return x.rain(any(), any());
            case 33: return x.rained(any(), any());
            case 34: return x.image(any());
            case 35: return x.back(any());
            case 36: return x.count(any());
            default: return x.status();
        }
    }

    public static void main(String[] args) {
        long thread = Thread.currentThread().getId();
        boolean good = true;
        long sum = 0;
        for (int run = 0; run < 300; run++) {
            long first = THREADS.getThreadAllocatedBytes(thread);
            HillSchool x = new HillSchool();
            long made = THREADS.getThreadAllocatedBytes(thread);
            for (int n = 0; n < 512; n++) {
                sum += call(x, draw() % 4 == 0 ? draw() % 8 : draw() % 38);
            }
            long used = THREADS.getThreadAllocatedBytes(thread);
            // The first run has the machine's own making of classes in it.
            if (run > 0 && (made - first > MOST_FOR_AN_OBJECT || used - made > MOST_FOR_ITS_CALLS)) {
                good = false;
                System.out.println("run " + run + ": bytes " + (made - first) + ", then " + (used - made));
            }
        }
        System.out.println("no call threw; their answers together: " + sum);
        if (!good) {
            System.exit(1);
        }
    }
}
