import com.sun.management.ThreadMXBean;
import java.lang.management.ManagementFactory;

/**
 * All calls of one run live in one room of some 600,000 objects and arrays, and 7.3 million fields
 * and elements. An element takes a byte at least and an object sixteen: so a run that takes less
 * bytes than the room has elements is within both.
 */
public final class RoomTest {
    private static final long ROOM = 7_300_000L;
    private static final int CALLS = 512;
    private static final int ALL_DAY = 16777215;

    interface Ask {
        void on(CavershamShift x, int call);
    }

    private RoomTest() {
    }

    public static void main(String[] args) {
        Checks.part("the room of one run");
        stays("tell", (x, call) -> x.tell(call % 40));
        stays("digest", (x, call) -> x.digest());
        stays("best", (x, call) -> x.best(call % 24));
        stays("bestAt", (x, call) -> x.bestAt(call % 24, call % 3, call % 2 == 0));
        stays("pass", (x, call) -> x.pass(1));
        stays("shift", (x, call) -> x.shift(call % 24, call % 3, call % 8, call % 3));
        stays("wouldSend", (x, call) -> x.wouldSend());
        stays("isSound", (x, call) -> x.isSound());
        stays("clarity", (x, call) -> x.clarity(call % 6));
        stays("gone", (x, call) -> x.gone(call % 6));
        stays("wouldHear, refused", (x, call) -> Checks.thrownBy(() -> x.wouldHear(0)));
        Checks.end("RoomTest");
    }

    private static void stays(String name, Ask ask) {
        ThreadMXBean counter = (ThreadMXBean) ManagementFactory.getThreadMXBean();
        long thread = Thread.currentThread().getId();
        long before = counter.getThreadAllocatedBytes(thread);
        CavershamShift x = fullPost();
        for (int call = x.desk(6) + 50; call < CALLS; call++) {
            ask.on(x, call);
        }
        long bytes = counter.getThreadAllocatedBytes(thread) - before;
        Checks.due(name + " takes " + bytes + " bytes: is counted, and in the room", bytes > 0 && bytes < ROOM, true);
    }

    /** All that an object can hold, by fewer than 80 calls; the first 24 hours of it are over. */
    private static CavershamShift fullPost() {
        CavershamShift x = new CavershamShift();
        for (int i = 0; i < 8; i++) {
            x.station(10 * i, 9, 0, i % 6, i % 5, ALL_DAY);
        }
        for (int i = 0; i < 5; i++) {
            x.monitor(99999);
        }
        for (int i = 0; i < 4; i++) {
            x.reader(63, 65535);
        }
        for (int i = 0; i < 3; i++) {
            x.shift(0, i, i, i);
        }
        for (int i = 0; i < 40; i++) {
            x.talk(i % 8, i / 8 * 24, i % 16, 300, i % 10, 65535);
        }
        x.pass(24);
        return x;
    }
}
