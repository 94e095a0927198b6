import com.sun.management.ThreadMXBean;
import java.lang.management.ManagementFactory;

/** All calls live in one room: calls make no objects, and a new mill is small. Dear calls come to an end. */
final class RoomTest {
    private static final Check check = new Check();
    private static final ThreadMXBean threads = (ThreadMXBean) ManagementFactory.getThreadMXBean();

    public static void main(String[] args) {
        made();
        aNewMillIsSmall();
        callsMakeNothing();
        check.end();
    }

    private static long made() {
        return threads.getThreadAllocatedBytes(Thread.currentThread().getId());
    }

    private static void aNewMillIsSmall() {
        PointMill kept = new PointMill();
        long ahead = made();
        PointMill mill = new PointMill();
        long size = made() - ahead;
        check.isTrue("a new mill has " + size + " bytes", size < 32_000 && mill != kept);
    }

    private static void callsMakeNothing() {
        PointMill mill = ShapesTest.mill(1, 0, 99, 9, -1, 0, 99, 9, 0, 1, 99, 9, 0, -1, 99, 9);
        int[] moves = {0, 1, 1, 1, 1, 1, 1, 1, 0, 1, 1, 1, 1, 1, 1, 1};
        for (int move : moves) {
            mill.move(0, move);
        }
        for (int value = 56; value <= 60; value++) {
            mill.coin(value);
        }
        askAll(mill);
        long ahead = made();
        for (int i = 0; i < 25; i++) {
            askAll(mill);
        }
        long size = made() - ahead;
        check.isTrue("calls made " + size + " bytes", size < 16_000);
    }

    private static long askAll(PointMill mill) {
        long sum = mill.inequality(0, 0, 2);
        sum += mill.isPlace(0) ? 1 : 0;
        sum += mill.count(0, 9) + mill.countAnew(0, 9) + mill.blown(0, 9, true);
        sum += mill.best(0, 9, 99, -98, 0) + mill.move(0, PointMill.SWAP);
        sum += mill.index(19, 20, -20, 19) + mill.generator(19, 20, -20, 19, 20, true);
        sum += mill.generatorAnew(19, 20, -20, 19, 20, true);
        sum += mill.coin(7) + mill.coin(7) + mill.ways(1000) + mill.gap(0) + mill.greatestGap();
        return sum + mill.tables(60, 60, 40, 40);
    }
}
