import com.sun.management.ThreadMXBean;
import java.lang.management.ManagementFactory;

/** All calls of one run live in one room: an object and its 512 dearest calls must leave nearly all of it free. */
public final class RoomTest {
    private static final ThreadMXBean BEAN = (ThreadMXBean) ManagementFactory.getThreadMXBean();

    interface Dear {
        void call(RememberedAsSunny x, int i);
    }

    public static void main(String[] args) {
        Check check = new Check("RoomTest");
        Dear[] dear = {
            (x, i) -> x.cheapest(6, i % 2), (x, i) -> x.most(999, i % 3), (x, i) -> x.tells(0, i % 6, i % 18),
            (x, i) -> x.run(40, i % 3), (x, i) -> x.premium(), (x, i) -> x.haze(i % 6), (x, i) -> x.chance(i, 20, 3, i % 2),
            (x, i) -> x.film(i % 4, i % 6), (x, i) -> x.sheet(i % 4, i % 3, 40), (x, i) -> x.society(i % 5),
            (x, i) -> x.image(), (x, i) -> x.back(), (x, i) -> x.year(), (x, i) -> x.text(),
            (x, i) -> { Check.feed(x, "thinks"); x.text(); }};
        for (int round = 0; round < 2; round++) {
            for (int d = 0; d < dear.length; d++) {
                long bytes = bytesOf(dear[d]);
                // The first round also loads classes.
                if (round > 0) {
                    check.that("run " + d + " takes " + bytes + " bytes, at most 64 KiB", bytes <= 65536);
                }
            }
        }
        check.end();
    }

    private static long bytesOf(Dear dear) {
        long thread = Thread.currentThread().getId();
        long before = BEAN.getThreadAllocatedBytes(thread);
        RememberedAsSunny x = new RememberedAsSunny();
        for (int kind = 0; kind < 6; kind++) {
            x.person(kind, kind);
        }
        x.image();
        x.film(0, 0);
        for (int i = 0; i < 500; i++) {
            dear.call(x, i);
        }
        return BEAN.getThreadAllocatedBytes(thread) - before;
    }
}
