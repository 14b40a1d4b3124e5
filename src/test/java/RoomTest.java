import com.sun.management.ThreadMXBean;
import java.lang.management.ManagementFactory;

/**
 * All calls of a run live in one room: some 600,000 objects and arrays, 7.3 million fields and
 * elements. 512 of the dearest calls must need far less: they are weighed in bytes here, of which
 * an element takes 1 to 4, an object's head 16.
 */
public final class RoomTest {
    private static final ThreadMXBean ROOM = (ThreadMXBean) ManagementFactory.getThreadMXBean();
    private static final int CALLS = 512;
    private static final long MOST_BYTES = 1_000_000;
    private static int wrong = 0;

    public static void main(String[] args) {
        for (int round = 0; round < 2; round++) {
            weigh("new object", round, freshOnes());
            weigh("letting, best, stood and the like", round, thoughts());
            weigh("text and back", round, texts());
            weigh("all others", round, others());
        }
        System.out.println(wrong == 0 ? "all runs have room" : wrong + " runs need too much room");
        if (wrong > 0) {
            System.exit(1);
        }
    }

    private static void weigh(String what, int round, long bytes) {
        if (round == 0) {
            return;
        }
        System.out.println(what + ": " + bytes + " bytes");
        if (bytes > MOST_BYTES) {
            wrong++;
        }
    }

    private static long now() {
        return ROOM.getThreadAllocatedBytes(Thread.currentThread().getId());
    }

    private static long freshOnes() {
        long before = now();
        for (int i = 0; i < 50; i++) {
            new BeggarCorners().count(0);
        }
        return now() - before;
    }

    private static BeggarCorners full() {
        BeggarCorners x = new BeggarCorners();
        x.deal(8);
        for (int b = 3; b < 8; b++) {
            x.set(b, 1, 8);
        }
        x.sheet(0, 1, 24);
        Due.text(x, "alms c*g/9+s/5+(c>g)*(s<7)");
        return x;
    }

    private static long thoughts() {
        BeggarCorners x = full();
        long before = now();
        for (int i = 0; i < CALLS / 7; i++) {
            x.letting(4, 0);
            x.best(0, 40, 0);
            x.stood(0, 0, 0);
            x.bestRent(60, 0);
            x.mourned(60, 0);
            x.takes(0, 0, 60);
            x.behind(100, 0);
        }
        return now() - before;
    }

    private static long texts() {
        BeggarCorners x = full();
        x.keep();
        int a = Due.four("fee ", 0);
        int b = Due.four("c+c+", 0);
        int c = Due.four("h*7 ", 0);
        long before = now();
        for (int i = 0; i < CALLS / 3; i++) {
            x.feed(a, b, c);
            x.text();
            x.back();
        }
        return now() - before;
    }

    private static long others() {
        BeggarCorners x = full();
        long before = now();
        for (int i = 0; i < CALLS / 8; i++) {
            x.hours(100);
            x.sheet(1, i % 2, 24);
            x.mark(1, 3, i);
            x.lay(i % 5, 2, 1);
            x.keep();
            x.check(30);
            x.pour(1);
            x.copy(1, 0, 1, 5, 9);
        }
        return now() - before;
    }
}
