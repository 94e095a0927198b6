/** Promises 8 to 11: count, countAnew, blown, best. */
final class CountsTest {
    private static final Check check = new Check();
    private static final int[] TRIANGLE = {-1, 0, 0, 0, 0, -1, 0, 0, 2, 3, 12, 1};
    private static final int[] SQUARE = {1, 0, 3, 0, -1, 0, 2, 0, 0, 1, 1, 0, 0, -1, 4, 0};
    private static final int[] EMPTY = {1, 0, 5, 0, -1, 0, -6, 0, 0, 1, 5, 0, 0, -1, 5, 0};

    public static void main(String[] args) {
        promise8And9Counts();
        promise8And9Letters();
        promise8And9MovesAndCuts();
        promise8And9Wide();
        promise10Blown();
        promise11Best();
        promise11Ties();
        check.end();
    }

    private static void promise8And9Counts() {
        check.sentence("count: Counts the points of a shape; countAnew: Counts the same. Returns how many");
        check.counts("triangle", 19, 0, Mills.of(TRIANGLE));
        check.counts("square", 36, 0, Mills.of(SQUARE));
        check.counts("no points", 0, 0, Mills.of(EMPTY));
        check.counts("one point", 1, 0, Mills.of(1, 0, 3, 0, -1, 0, -3, 0, 0, 1, -7, 0, 0, -1, 7, 0));
        check.counts("a line", 6, 0, Mills.of(1, 1, 5, 0, -1, -1, -5, 0, -1, 0, 0, 0, 0, -1, 0, 0));
        check.counts("a line between points", 0, 0, Mills.of(2, 2, 5, 0, -2, -2, -5, 0, -1, 0, 0, 0, 0, -1, 0, 0));
        check.counts("broken ends below 0", 1, 0, Mills.of(3, 0, -4, 0, -3, 0, 7, 0, 0, 5, -8, 0, 0, -5, 14, 0));
        check.counts("broken ends, 3 by 2", 6, 0, Mills.of(3, 0, 7, 0, -3, 0, 2, 0, 0, 5, -3, 0, 0, -5, 14, 0));
        check.counts("no points, edges that cross", 0, 0, Mills.of(-1, 0, -3, 0, 0, -1, -3, 0, 1, 1, 5, 0));
        check.counts("a level one that shuts out all", 0, 0, Mills.of(
                1, 1, 9, 0, -1, 1, 9, 0, 0, -1, 0, 0, 0, 1, -1, 0));
    }

    private static void promise8And9Letters() {
        check.sentence("a times x, and b times y, together, is at most c, and e times the letter, together");
        PointMill triangle = Mills.of(TRIANGLE);
        check.counts("triangle of 3", 27, 3, triangle);
        check.counts("triangle of 9", 48, 9, triangle);
        PointMill shrinking = Mills.of(1, 0, 9, -1, -1, 0, 0, 0, 0, 1, 9, -1, 0, -1, 0, 0);
        for (int letter = 0; letter <= 9; letter++) {
            check.counts("shrinking, " + letter, (10 - letter) * (10 - letter), letter, shrinking);
        }
        PointMill vanishing = Mills.of(1, 0, 3, -1, -1, 0, 0, 0, 0, 1, 1, 0, 0, -1, 0, 0);
        check.counts("just there", 2, 3, vanishing);
        check.counts("vanished", 0, 4, vanishing);
        check.counts("at the ends", 1627, 9, Mills.of(9, 8, 99, 9, -9, 7, 99, 9, 1, -9, 99, 9));
    }

    private static void promise8And9MovesAndCuts() {
        check.sentence("cuts that lose none, moves that keep their number");
        PointMill mill = Mills.of(2, 2, 5, 0, -2, 2, 3, 0, 0, -1, 4, 0);
        check.counts("ahead of cuts", 42, 0, mill);
        mill.cut(0, 0, 1, 1, 1, 4);
        check.counts("after a cut", 42, 0, mill);
        mill.cut(0, 0, 1, 0, 0, 2);
        check.counts("after two cuts", 42, 0, mill);
        int[] moves = {1, 0, 2, 1, 0, 1, 2, 0, 1, 1, 2, 0};
        for (int move : moves) {
            mill.move(0, move);
            check.counts("after the move " + move, 42, 0, mill);
        }
    }

    /** Slides make the shape wide: its corners lie up to some thousand columns off. */
    private static void promise8And9Wide() {
        check.sentence("cuts that lose none, moves that keep their number: of a wide shape");
        PointMill mill = Mills.of(1, 0, 99, 9, -1, 0, 99, 9, 0, 1, 99, 9, 0, -1, 99, 9);
        long due = 361 * 361;
        check.counts("ahead of moves", due, 9, mill);
        int[] moves = {0, 1, 1, 1, 1, 1, 1, 1, 0, 1, 1, 1, 1, 1, 1, 1};
        for (int move : moves) {
            mill.move(0, move);
        }
        check.counts("wide", due, 9, mill);
        long blown = 2L * 9 * 99 + 1;
        check.equal("wide, blown", blown * blown, () -> mill.blown(0, 9, false));
        check.equal("wide, blown, inner", (blown - 2) * (blown - 2), () -> mill.blown(0, 9, true));
    }

    private static void promise10Blown() {
        check.sentence("blown: Counts points of a shape that is blown up. Returns how many");
        PointMill triangle = Mills.of(TRIANGLE);
        long[] all = {1, 19, 61};
        long[] inner = {0, 7, 37};
        for (int times = 0; times < 3; times++) {
            int asked = times;
            check.equal("triangle, " + times, all[times], () -> triangle.blown(0, asked, false));
            check.equal("triangle, inner, " + times, inner[times], () -> triangle.blown(0, asked, true));
        }
        check.equal("triangle, inner, 9", 919, () -> triangle.blown(0, 9, true));
        PointMill square = Mills.of(SQUARE);
        for (int times = 0; times <= 9; times++) {
            int asked = times;
            int side = 5 * times;
            check.equal("square, " + times, (side + 1) * (side + 1), () -> square.blown(0, asked, false));
            long due = times == 0 ? 0 : (side - 1) * (side - 1);
            check.equal("square, inner, " + times, due, () -> square.blown(0, asked, true));
        }
        PointMill empty = Mills.of(EMPTY);
        check.equal("no points, 2", 0, () -> empty.blown(0, 2, false));
        check.equal("no points, 0", 1, () -> empty.blown(0, 0, false));
        PointMill broken = Mills.of(3, 0, 7, 0, -3, 0, -1, 0, 0, 5, 7, 0, 0, -5, 7, 0);
        check.equal("broken, 2", 20, () -> broken.blown(0, 2, false));
        check.equal("broken, inner, 3", 45, () -> broken.blown(0, 3, true));
    }

    private static void promise11Best() {
        check.sentence("best: Looks for the best point: p times x, and q times y, together, is greatest");
        PointMill triangle = Mills.of(TRIANGLE);
        check.best("1, 1", triangle, 0, 1, 1, 6, 6, 0);
        check.best("-5, 7 of 3", triangle, 3, -5, 7, 35, 0, 5);
        check.best("-1, -1", triangle, 0, -1, -1, 0, 0, 0);
        check.best("1, 2", triangle, 0, 1, 2, 8, 0, 4);
        PointMill square = Mills.of(SQUARE);
        check.best("7, -5", square, 0, 7, -5, 41, 3, -4);
        check.best("-7, 5", square, 0, -7, 5, 19, -2, 1);
        check.best("less than 0", Mills.of(1, 0, -3, 0, -1, 0, 5, 0, 0, 1, -2, 0, 0, -1, 4, 0), 0, 1, 1, -5, -3, -2);
        check.best("a corner between points", Mills.of(2, 2, 5, 0, -2, 2, 3, 0, 0, -1, 4, 0), 0, 0, 1, 1, 0, 1);
    }

    private static void promise11Ties() {
        check.sentence("best: of several the least x, then the least y");
        PointMill square = Mills.of(SQUARE);
        check.best("0, 0", square, 0, 0, 0, 0, -2, -4);
        check.best("0, 1", square, 0, 0, 1, 1, -2, 1);
        check.best("0, -1", square, 0, 0, -1, 4, -2, -4);
        check.best("1, 0", square, 0, 1, 0, 3, 3, -4);
        check.best("-1, 0", square, 0, -1, 0, 2, -2, -4);
        check.best("2, 3 along an edge", Mills.of(TRIANGLE), 0, 2, 3, 12, 0, 4);
    }
}
