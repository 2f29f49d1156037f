import java.lang.management.ManagementFactory;

/** All calls of one run live in one room: an object makes its rows once, and no call makes more. */
public final class RoomTest {
    private static final long MOST_OF_ONE_OBJECT = 16384;
    private static final long MOST_OF_ALL_CALLS = 2048;
    private static final Due due = new Due();
    private static final com.sun.management.ThreadMXBean bean =
            (com.sun.management.ThreadMXBean) ManagementFactory.getThreadMXBean();

    public static void main(String[] args) {
        if (bean.isThreadAllocatedMemorySupported() && bean.isThreadAllocatedMemoryEnabled()) {
            // The first round loads classes, which is not counted.
            measure(false);
            measure(true);
        }
        due.end();
    }

    private static long bytes() {
        return bean.getThreadAllocatedBytes(Thread.currentThread().getId());
    }

    private static void measure(boolean asked) {
        long start = bytes();
        NamesOnIce x = new NamesOnIce();
        long made = bytes();
        long sum = 0;
        for (int i = 0; i < 17; i++) {
            sum += dearCalls(x, i);
        }
        long end = bytes();
        if (asked) {
            due.is("room of one object (" + (made - start) + ")", made - start <= MOST_OF_ONE_OBJECT ? 1 : 0, 1);
            due.is("room of its calls (" + (end - made) + ")", end - made <= MOST_OF_ALL_CALLS ? 1 : 0, 1);
            due.is("answers", sum != 0 ? 1 : 0, 1);
        }
    }

    private static long dearCalls(NamesOnIce x, int i) {
        long sum = x.lake(4, 4);
        for (int k = 0; k < 5; k++) {
            sum += x.write(k, 3 * k, k, 5, 9 + i, 5);
        }
        sum += x.image() + x.saw(0) + x.fish(3) + x.ice(15, 50) + x.square(15, 0) + x.about(1, 6) + x.as(4, 2);
        sum += x.letters(0x3174) + x.fault() + x.needed(1, 0) + x.bears(0) + x.days() + x.blank();
        sum += x.owes(0, 5, true) + x.rest(5) + x.sledges(3, 200, 1) + x.settled(0) + x.skate(0, 15, 1);
        sum += x.odds(4, 9, 5, 1, 0) + x.winter(60, i, 0) + x.restore() + x.count(2) + x.digest();
        return sum;
    }
}
