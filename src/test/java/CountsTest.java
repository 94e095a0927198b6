/** Promises 8 to 11: count, countAnew, blown, best. */
final class CountsTest {
    private static final int LOWEST = Integer.MIN_VALUE;
    private static final int HIGHEST = Integer.MAX_VALUE;
    private static final Check check = new Check();
    private static final int[] TRIANGLE = {-1, 0, 0, 0, 0, -1, 0, 0, 2, 3, 12, 1};
    private static final int[] SQUARE = {1, 0, 3, 0, -1, 0, 2, 0, 0, 1, 1, 0, 0, -1, 4, 0};
    private static final int[] EMPTY = {1, 0, 5, 0, -1, 0, -6, 0, 0, 1, 5, 0, 0, -1, 5, 0};
    private static final int[] QUARTER = {1, 0, 5, 0, 0, 1, 5, 0};

    public static void main(String[] args) {
        promise8And9Counts();
        promise8And9Letters();
        promise8And9MovesAndCuts();
        promise8And9Wide();
        promise8And9Order();
        promise8To11Full();
        promise10Blown();
        promise10Order();
        promise11Best();
        promise11Ties();
        promise11Order();
        check.end();
    }

    private static void counts(String text, long due, int letter, PointMill mill) {
        check.equal(text + ", count", due, () -> mill.count(0, letter));
        check.equal(text + ", countAnew", due, () -> mill.countAnew(0, letter));
    }

    private static void promise8And9Counts() {
        counts("triangle", 19, 0, ShapesTest.mill(TRIANGLE));
        counts("square", 36, 0, ShapesTest.mill(SQUARE));
        counts("no points", 0, 0, ShapesTest.mill(EMPTY));
        counts("one point", 1, 0, ShapesTest.mill(1, 0, 3, 0, -1, 0, -3, 0, 0, 1, -7, 0, 0, -1, 7, 0));
        counts("a line", 6, 0, ShapesTest.mill(1, 1, 5, 0, -1, -1, -5, 0, -1, 0, 0, 0, 0, -1, 0, 0));
        counts("a line between points", 0, 0, ShapesTest.mill(2, 2, 5, 0, -2, -2, -5, 0, -1, 0, 0, 0, 0, -1, 0, 0));
        counts("broken ends below 0", 1, 0, ShapesTest.mill(3, 0, -4, 0, -3, 0, 7, 0, 0, 5, -8, 0, 0, -5, 14, 0));
        counts("broken ends, 3 by 2", 6, 0, ShapesTest.mill(3, 0, 7, 0, -3, 0, 2, 0, 0, 5, -3, 0, 0, -5, 14, 0));
        counts("no points, edges that cross", 0, 0, ShapesTest.mill(-1, 0, -3, 0, 0, -1, -3, 0, 1, 1, 5, 0));
        counts("a level one that shuts out all", 0, 0, ShapesTest.mill(
                1, 1, 9, 0, -1, 1, 9, 0, 0, -1, 0, 0, 0, 1, -1, 0));
    }

    private static void promise8And9Letters() {
        PointMill triangle = ShapesTest.mill(TRIANGLE);
        counts("triangle of 3", 27, 3, triangle);
        counts("triangle of 9", 48, 9, triangle);
        PointMill shrinking = ShapesTest.mill(1, 0, 9, -1, -1, 0, 0, 0, 0, 1, 9, -1, 0, -1, 0, 0);
        for (int letter = 0; letter <= 9; letter++) {
            counts("shrinking, " + letter, (10 - letter) * (10 - letter), letter, shrinking);
        }
        PointMill vanishing = ShapesTest.mill(1, 0, 3, -1, -1, 0, 0, 0, 0, 1, 1, 0, 0, -1, 0, 0);
        counts("just there", 2, 3, vanishing);
        counts("vanished", 0, 4, vanishing);
        counts("at the ends", 1627, 9, ShapesTest.mill(9, 8, 99, 9, -9, 7, 99, 9, 1, -9, 99, 9));
    }

    private static void promise8And9MovesAndCuts() {
        PointMill mill = ShapesTest.mill(2, 2, 5, 0, -2, 2, 3, 0, 0, -1, 4, 0);
        counts("ahead of cuts", 42, 0, mill);
        mill.cut(0, 0, 1, 1, 1, 4);
        counts("after a cut", 42, 0, mill);
        mill.cut(0, 0, 1, 0, 0, 2);
        counts("after two cuts", 42, 0, mill);
        int[] moves = {1, 0, 2, 1, 0, 1, 2, 0, 1, 1, 2, 0};
        for (int move : moves) {
            mill.move(0, move);
            counts("after the move " + move, 42, 0, mill);
        }
    }

    /** Slides make the shape wide: its corners lie up to some thousand columns off. */
    private static void promise8And9Wide() {
        PointMill mill = ShapesTest.mill(1, 0, 99, 9, -1, 0, 99, 9, 0, 1, 99, 9, 0, -1, 99, 9);
        long due = 361 * 361;
        counts("ahead of moves", due, 9, mill);
        int[] moves = {0, 1, 1, 1, 1, 1, 1, 1, 0, 1, 1, 1, 1, 1, 1, 1};
        for (int move : moves) {
            mill.move(0, move);
        }
        counts("wide", due, 9, mill);
        long blown = 2L * 9 * 99 + 1;
        check.equal("wide, blown", blown * blown, () -> mill.blown(0, 9, false));
        check.equal("wide, blown, inner", (blown - 2) * (blown - 2), () -> mill.blown(0, 9, true));
    }

    /** A shape with all its 10 inequalities. */
    private static void promise8To11Full() {
        PointMill mill = ShapesTest.mill(
                1, 0, 3, 0, -1, 0, 2, 0, 0, 1, 1, 0, 0, -1, 4, 0, 1, 1, 9, 0, 1, -1, 9, 0, -1, 1, 9, 0, -1, -1, 9, 0,
                2, 1, 9, 0, 1, 2, 4, 0);
        counts("full", 35, 0, mill);
        check.equal("full, a place", 1, () -> mill.isPlace(0) ? 1 : 0);
        check.equal("full, blown", 35, () -> mill.blown(0, 1, false));
        check.equal("full, inner", 16, () -> mill.blown(0, 1, true));
        best("full, best", mill, 0, 1, 1, 3, 2, 1);
        for (int move : new int[] {0, 1, 2, 0}) {
            check.equal("full, move " + move, 10, () -> mill.move(0, move));
            counts("full, move " + move, 35, 0, mill);
        }
    }

    private static void promise8And9Order() {
        PointMill mill = ShapesTest.mill(TRIANGLE);
        for (int shape : new int[] {-1, 1, 8, LOWEST, HIGHEST}) {
            check.noIndex("count, shape " + shape, () -> mill.count(shape, 10));
            check.noIndex("countAnew, shape " + shape, () -> mill.countAnew(shape, 10));
        }
        PointMill quarter = ShapesTest.mill(QUARTER);
        for (int letter : new int[] {-1, 10, LOWEST, HIGHEST}) {
            check.noArgument("count, letter " + letter, () -> quarter.count(0, letter));
            check.noArgument("countAnew, letter " + letter, () -> quarter.countAnew(0, letter));
        }
        check.noState("count, no place", () -> quarter.count(0, 0));
        check.noState("countAnew, no place", () -> quarter.countAnew(0, 0));
        PointMill none = ShapesTest.mill();
        check.noState("count, no inequalities", () -> none.count(0, 0));
        check.noState("countAnew, no inequalities", () -> none.countAnew(0, 0));
    }

    private static void promise10Blown() {
        PointMill triangle = ShapesTest.mill(TRIANGLE);
        long[] all = {1, 19, 61};
        long[] inner = {0, 7, 37};
        for (int times = 0; times < 3; times++) {
            int asked = times;
            check.equal("triangle, " + times, all[times], () -> triangle.blown(0, asked, false));
            check.equal("triangle, inner, " + times, inner[times], () -> triangle.blown(0, asked, true));
        }
        check.equal("triangle, inner, 9", 919, () -> triangle.blown(0, 9, true));
        PointMill square = ShapesTest.mill(SQUARE);
        for (int times = 0; times <= 9; times++) {
            int asked = times;
            int side = 5 * times;
            check.equal("square, " + times, (side + 1) * (side + 1), () -> square.blown(0, asked, false));
            long due = times == 0 ? 0 : (side - 1) * (side - 1);
            check.equal("square, inner, " + times, due, () -> square.blown(0, asked, true));
        }
        PointMill empty = ShapesTest.mill(EMPTY);
        check.equal("no points, 2", 0, () -> empty.blown(0, 2, false));
        check.equal("no points, 0", 1, () -> empty.blown(0, 0, false));
        PointMill broken = ShapesTest.mill(3, 0, 7, 0, -3, 0, -1, 0, 0, 5, 7, 0, 0, -5, 7, 0);
        check.equal("broken, 2", 20, () -> broken.blown(0, 2, false));
        check.equal("broken, inner, 3", 45, () -> broken.blown(0, 3, true));
    }

    private static void promise10Order() {
        PointMill quarter = ShapesTest.mill(QUARTER);
        for (int shape : new int[] {-1, 1, 8, LOWEST, HIGHEST}) {
            check.noIndex("blown, shape " + shape, () -> quarter.blown(shape, 10, true));
        }
        for (int times : new int[] {-1, 10, LOWEST, HIGHEST}) {
            check.noArgument("blown, times " + times, () -> quarter.blown(0, times, false));
        }
        check.noState("blown, no place", () -> quarter.blown(0, 0, true));
        PointMill none = ShapesTest.mill();
        check.noState("blown, no inequalities", () -> none.blown(0, 0, false));
    }

    private static void best(String text, PointMill mill, int letter, int p, int q, int... due) {
        for (int what = 0; what < 3; what++) {
            int asked = what;
            check.equal(text + ", what " + what, due[what], () -> mill.best(0, letter, p, q, asked));
        }
    }

    private static void promise11Best() {
        PointMill triangle = ShapesTest.mill(TRIANGLE);
        best("1, 1", triangle, 0, 1, 1, 6, 6, 0);
        best("-5, 7 of 3", triangle, 3, -5, 7, 35, 0, 5);
        best("-1, -1", triangle, 0, -1, -1, 0, 0, 0);
        best("1, 2", triangle, 0, 1, 2, 8, 0, 4);
        PointMill square = ShapesTest.mill(SQUARE);
        best("99, -99", square, 0, 99, -99, 693, 3, -4);
        best("-99, 99", square, 0, -99, 99, 297, -2, 1);
        best("less than 0", ShapesTest.mill(1, 0, -3, 0, -1, 0, 5, 0, 0, 1, -2, 0, 0, -1, 4, 0), 0, 1, 1, -5, -3, -2);
        best("a corner between points", ShapesTest.mill(2, 2, 5, 0, -2, 2, 3, 0, 0, -1, 4, 0), 0, 0, 1, 1, 0, 1);
    }

    private static void promise11Ties() {
        PointMill square = ShapesTest.mill(SQUARE);
        best("0, 0", square, 0, 0, 0, 0, -2, -4);
        best("0, 1", square, 0, 0, 1, 1, -2, 1);
        best("0, -1", square, 0, 0, -1, 4, -2, -4);
        best("1, 0", square, 0, 1, 0, 3, 3, -4);
        best("-1, 0", square, 0, -1, 0, 2, -2, -4);
        best("2, 3 along an edge", ShapesTest.mill(TRIANGLE), 0, 2, 3, 12, 0, 4);
    }

    private static void promise11Order() {
        PointMill quarter = ShapesTest.mill(QUARTER);
        for (int shape : new int[] {-1, 1, 8, LOWEST, HIGHEST}) {
            check.noIndex("best, shape " + shape, () -> quarter.best(shape, 10, 100, 100, 3));
        }
        for (int far : new int[] {-1, 10, LOWEST, HIGHEST}) {
            check.noArgument("best, letter " + far, () -> quarter.best(0, far, 1, 1, 0));
        }
        for (int far : new int[] {-100, 100, LOWEST, HIGHEST}) {
            check.noArgument("best, p " + far, () -> quarter.best(0, 0, far, 1, 0));
            check.noArgument("best, q " + far, () -> quarter.best(0, 0, 1, far, 0));
        }
        for (int far : new int[] {-1, 3, LOWEST, HIGHEST}) {
            check.noArgument("best, what " + far, () -> quarter.best(0, 0, 1, 1, far));
        }
        check.noState("best, no place", () -> quarter.best(0, 0, 1, 1, 0));
        PointMill empty = ShapesTest.mill(EMPTY);
        check.noState("best, no points", () -> empty.best(0, 0, 1, 1, 0));
        PointMill vanishing = ShapesTest.mill(1, 0, 3, -1, -1, 0, 0, 0, 0, 1, 1, 0, 0, -1, 0, 0);
        best("best, there are points", vanishing, 3, 1, 1, 1, 0, 1);
        check.noState("best, no points by the letter", () -> vanishing.best(0, 4, 1, 1, 0));
    }
}
