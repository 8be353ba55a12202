import com.sun.management.ThreadMXBean;
import java.lang.management.ManagementFactory;

/** All calls of a run live in one room: a town is made of few bytes, and no call makes any more. */
public final class RoomTest {
    private static final Check CHECK = new Check("RoomTest");
    private static final ThreadMXBean THREADS = (ThreadMXBean) ManagementFactory.getThreadMXBean();
    /** What the asking itself may take. */
    private static final int SLACK = 1000;
    private static final int ROUNDS = 200;

    private static long seen;

    public static void main(String[] args) {
        int[] zone = {0x7A6F6E65, 0x3066726F, 0x6D313074, 0x6F343061, 0x7433303B};
        DesertTown town = new DesertTown();
        everyCall(town, zone, 0);
        long before = bytes();
        for (int round = 0; round < ROUNDS; round++) {
            everyCall(town, zone, round);
        }
        long made = bytes() - before;
        CHECK.due("calls that were answered, " + seen, seen != 0, true);
        CHECK.due("calls make nothing, but " + made + " bytes", made <= SLACK, true);
        before = bytes();
        for (int k = 0; k < ROUNDS; k++) {
            seen += new DesertTown().look(2);
        }
        long each = (bytes() - before) / ROUNDS;
        CHECK.due("a town is made of few bytes, " + each, each <= 10000, true);
        CHECK.finish();
    }

    private static long bytes() {
        return THREADS.getThreadAllocatedBytes(Thread.currentThread().getId());
    }

    private static void everyCall(DesertTown town, int[] zone, int round) {
        seen += town.racer(10 + round % 111);
        seen += town.camp(1 + round % 7, 1 + 37 * round % 900) ? 1 : 0;
        seen += town.hour(round % 7, round % 24) ? 1 : 0;
        seen += town.breaks(round % 10, round % 8 - 1, 0) ? 1 : 0;
        seen += town.set(2, 10 + round % 111) ? 1 : 0;
        seen += town.feed(zone[0], zone[1], zone[2], zone[3], zone[4]);
        seen += town.end(round % 21) ? 1 : 0;
        seen += town.book();
        seen += town.fault(0) + town.fault(1) + town.look(round % 9);
        for (int i = 0; i < 7; i++) {
            seen += town.time(round % 10, i) + town.ran(round % 10, i, round % 4) + town.standing(i, round % 10);
            seen += town.of(i + 1, round % 6) + town.goes(i) + town.sweep(i, round % 3);
        }
        seen += town.sets();
    }
}
