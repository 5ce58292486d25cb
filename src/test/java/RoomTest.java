import com.sun.management.ThreadMXBean;
import java.lang.management.ManagementFactory;

/** The room that all calls of a run share: what an object takes, and that calls take none. */
public final class RoomTest {
    private static final ThreadMXBean BEAN = (ThreadMXBean) ManagementFactory.getThreadMXBean();

    private static long taken() {
        return BEAN.getThreadAllocatedBytes(Thread.currentThread().getId());
    }

    private static int allCalls(HandFast h) {
        int sum = 0;
        sum += h.feed(0x73746179, 0x20312069, 0x66206269, 0, 0) + h.end(0) + h.isle() + h.rule() + h.force(0);
        sum += h.east(0, 0) + h.west(0, 0) + h.likes(0, 0, 0) + h.fair() + h.part(0) + h.join(0, 0) + h.hold() + h.undo();
        sum += h.ahead(0, 9, 0) + h.lasts(0) + h.settled(0) + h.tries(1, 9, 0) + h.liked(0) + h.doors(0, 0) + h.keep(0, 9);
        sum += h.note(3, 0, 0) + h.ruled(0) + h.boats(0, 0) + h.look(3, 0) + h.seed(3) + h.isles(2, 2, 50, 0) + h.count(0);
        return sum + h.image(0) + h.back(0);
    }

    public static void main(String[] args) {
        taken();
        new HandFast();
        long before = taken();
        HandFast h = new HandFast();
        long object = taken() - before;
        Due.holds("an object takes at most 64 KiB, took " + object, object <= 65536);
        Due.isle(h, FairTest.TWO);
        Due.rule(h, "stay 1 if likes + best * 2 - 3 > 1 and not [years = 3 or hands < 2]");
        int sum = 0;
        for (int i = 0; i < 3; i++) sum += allCalls(h);
        before = taken();
        for (int i = 0; i < 50; i++) sum += allCalls(h);
        long calls = taken() - before;
        Due.holds("50 of every call take nothing, took " + calls + " with " + sum, calls < 4096);
        Due.finish();
    }
}
