import com.sun.management.ThreadMXBean;
import java.lang.management.ManagementFactory;

/** All calls of a run live in one room: what the dearest calls make is little of it. Dear calls come to an end. */
final class RoomTest {
    private static final Check check = new Check();
    /** The room has some 600,000 objects of 12 bytes or more, and 7.3 million elements of mostly 4 or 8 bytes. */
    private static final long MOST_OF_A_NEW_MILL = 1_000_000;
    private static final long MOST_OF_A_RUN = 30_000_000;
    /** With the calls ahead of them, these are less than 512. */
    private static final int ROUNDS = 28;

    private static final ThreadMXBean threads = (ThreadMXBean) ManagementFactory.getThreadMXBean();

    public static void main(String[] args) {
        made();
        aNewMillIsSmall();
        callsMakeLittle();
        check.end();
    }

    private static long made() {
        return threads.getThreadAllocatedBytes(Thread.currentThread().getId());
    }

    private static void aNewMillIsSmall() {
        PointMill kept = new PointMill();
        long ahead = made();
        PointMill mill = new PointMill();
        long size = made() - ahead;
        check.isTrue("a new mill has " + size + " bytes", size < MOST_OF_A_NEW_MILL && mill != kept);
    }

    private static void callsMakeLittle() {
        PointMill mill = Mills.of(1, 0, 99, 9, -1, 0, 99, 9, 0, 1, 99, 9, 0, -1, 99, 9);
        int[] moves = {0, 1, 1, 1, 1, 1, 1, 1, 0, 1, 1, 1, 1, 1, 1, 1};
        for (int move : moves) {
            mill.move(0, move);
        }
        for (int value = 56; value <= 60; value++) {
            mill.coin(value);
        }
        askAll(mill);
        long ahead = made();
        for (int i = 0; i < ROUNDS; i++) {
            askAll(mill);
        }
        long size = made() - ahead;
        check.isTrue("calls made " + size + " bytes", size < MOST_OF_A_RUN);
    }

    private static long askAll(PointMill mill) {
        long sum = mill.inequality(0, 0, 2);
        sum += mill.isPlace(0) ? 1 : 0;
        sum += mill.count(0, 9) + mill.countAnew(0, 9) + mill.blown(0, 9, true);
        sum += mill.best(0, 9, 99, -98, 0) + mill.move(0, PointMill.SWAP);
        sum += mill.index(19, 20, -20, 19) + mill.generator(19, 20, -20, 19, 20, true);
        sum += mill.generatorAnew(19, 20, -20, 19, 20, true);
        sum += mill.coin(7) + mill.coin(7) + mill.ways(1000) + mill.gap(0) + mill.greatestGap();
        return sum + mill.tables(60, 60, 40, 40);
    }
}
