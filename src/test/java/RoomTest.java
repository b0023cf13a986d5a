import java.lang.management.ManagementFactory;

/** No call but the first image makes anything, so 512 calls of the dearest sort need no more room than the object. */
public final class RoomTest {
    private static final com.sun.management.ThreadMXBean THREADS =
        (com.sun.management.ThreadMXBean) ManagementFactory.getThreadMXBean();

    public static void main(String[] args) {
        round(new RingBars());
        long before = made();
        RingBars x = new RingBars();
        long object = made() - before;
        // some 30,000 numbers, the image among them
        Due.is("room of an object, " + object + " bytes", true, object < 200_000);
        before = made();
        round(x);
        long calls = made() - before;
        Due.is("room of its calls, " + calls + " bytes", true, calls < 100_000);
        before = made();
        again(x);
        long more = made() - before;
        Due.is("room of more calls, " + more + " bytes", true, more < 2_000);
        Due.close();
    }

    private static long made() {
        return THREADS.getThreadAllocatedBytes(Thread.currentThread().getId());
    }

    private static void round(RingBars x) {
        x.bar(5);
        x.bar(8);
        x.bar(16);
        // "bend 0 grain*thick;m" "ass 0 1;"
        x.feed(1650814564, 540024935, 1918986606, 712271977, 1667971949);
        x.feed(1634956064, 807416123, 538976288, 538976288, 538976288);
        x.text(0, 0);
        x.goal(1, 0, 90000);
        x.tap(0, 0, 100000);
        x.night(10, 10);
        for (int n = 0; n < 8; n++) {
            x.note(5, 10);
            x.blank(20, 50);
        }
        x.image(true);
    }

    private static void again(RingBars x) {
        for (int n = 0; n < 50; n++) {
            x.fewest(1, 0);
            x.fits(0, 4, 99999, 1);
            x.set(0, 0);
            x.nights(-1, 0);
            x.nights(0, 3);
            x.enough(1, 0, 0);
            x.in(2, 5, 5, 3);
            x.image(n % 2 == 0);
            x.text(1, 0);
        }
    }
}
