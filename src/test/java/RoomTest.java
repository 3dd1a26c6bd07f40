import com.sun.management.ThreadMXBean;
import java.lang.management.ManagementFactory;

/** All calls of a run live in one room: an object's 512 calls, dear ones among them, make next to nothing. */
public final class RoomTest {
    private static final long MOST_BYTES = 500_000;

    private static SmokeTubes full() {
        SmokeTubes x = new SmokeTubes();
        for (int i = 0; i < 8; i++) {
            x.piece(20 + i, i % 3 == 0 ? 3 : 0);
        }
        for (int i = 0; i < 12; i++) {
            x.way(i % 8, (i + 1 + i / 8) % 8, 1 + i % 2, 2 + i % 4, i % 5 - 2);
        }
        for (int i = 0; i < 8; i++) {
            x.fan(i, 1 + i % 6, 5000, 1 << i);
        }
        for (int i = 0; i < 60; i++) {
            x.set(i % 4, i % 8, i % 21, i % 3 - 1);
        }
        for (int i = 0; i < 10; i++) {
            x.group(i % 8, 30 + i, i % 4);
        }
        for (int i = 0; i < 4; i++) {
            x.fire(2 * i, i, 21, 500, 300, 20000);
        }
        for (int i = 0; i < 6; i++) {
            x.door(i, 4, 5 + i);
        }
        for (int i = 0; i < 10; i++) {
            x.drill(2 * i, i);
        }
        for (int i = 0; i < 40; i++) {
            x.reading(i % 8, i % 21, i % 9 == 0);
        }
        x.gauges(255, 300, 1);
        x.eyes(4000);
        return x;
    }

    public static void main(String[] args) {
        ThreadMXBean bean = (ThreadMXBean) ManagementFactory.getThreadMXBean();
        long thread = Thread.currentThread().getId();
        full().best(3, 15);
        long was = bean.getThreadAllocatedBytes(thread);
        SmokeTubes x = full();
        x.row(0, 3, 21);
        for (int i = 0; i < 170; i++) {
            x.eyes(3000 + i);
            int what = i % 10;
            int by = 10 + i % 11;
            int asked = what == 0 ? x.best(i % 22, by) : what == 1 ? x.fewest(0, by, 31) : what == 2 ? x.turn(1, 5, by)
                : what == 3 ? x.all(0, 1, 4, 0) : what == 4 ? x.next(2) : what == 5 ? x.fit() : what == 6
                ? x.reach(0, 1, 3, 0, 4, 100) : what == 7 ? x.lay(0, 1, 3, 0, by, 0) : what == 8
                ? x.whereAt(0, 1, 5, 0, 1, 0, 6) : x.turnTo(0, 3, by, 2);
            Check.yes("it answers", asked >= -700);
        }
        long bytes = bean.getThreadAllocatedBytes(thread) - was;
        System.out.println("RoomTest: " + bytes + " bytes");
        Check.yes("small enough", bytes <= MOST_BYTES);
        Check.end("RoomTest");
    }
}
