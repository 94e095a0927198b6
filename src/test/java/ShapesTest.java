/** Promises 1 to 7: a new object, shape, add, cut, move, inequality, isPlace. */
final class ShapesTest {
    private static final Check check = new Check();

    public static void main(String[] args) {
        promise3Add();
        promise4Cut();
        promise5Move();
        promise6Inequality();
        promise7Places();
        promise7NoPlaces();
        check.end();
    }

    private static void promise3Add() {
        check.sentence("add: Adds an inequality. Returns its number");
        PointMill mill = Mills.of();
        int[][] rows = {{4, -5, 60, 7}, {-1, 8, -31, -2}, {0, 1, 0, 0}, {1, 0, 5, -3}};
        for (int i = 0; i < rows.length; i++) {
            int[] row = rows[i];
            check.equal("add " + i, i, () -> mill.add(0, row[0], row[1], row[2], row[3]));
            check.inequality("added " + i, mill, i, row);
        }
        mill.shape();
        check.equal("add to another shape", 0, () -> mill.add(1, 2, 2, 2, 2));
        check.inequality("the first one of the first shape", mill, 0, rows[0]);
    }

    private static void promise4Cut() {
        check.sentence("cut: Cuts. Returns the number of the new inequality");
        PointMill mill = Mills.of(2, 2, 5, 0, -2, 2, 3, 0, 3, 0, -1, 0, 1, 2, 3, 4);
        check.equal("half of both", 4, () -> mill.cut(0, 0, 1, 1, 1, 4));
        check.inequality("half of both", mill, 4, 0, 1, 2, 0);
        check.equal("rounded down below 0", 5, () -> mill.cut(0, 2, 1, 2, 0, 3));
        check.inequality("rounded down below 0", mill, 5, 1, 0, -1, 0);
        check.equal("the same twice", 6, () -> mill.cut(0, 0, 1, 0, 2, 3));
        check.inequality("the same twice", mill, 6, 2, 2, 5, 0);
        check.equal("the other one alone", 7, () -> mill.cut(0, 0, 0, 1, 9, 1));
        check.inequality("the other one alone", mill, 7, -18, 18, 27, 0);
        check.equal("by 20", 8, () -> mill.cut(0, 7, 9, 7, 1, 20));
        check.inequality("by 20", mill, 8, -9, 9, 13, 0);
        check.equal("of cuts", 9, () -> mill.cut(0, 4, 9, 4, 9, 18));
        check.inequality("of cuts", mill, 9, 0, 1, 2, 0);
        check.noState("an eleventh one", () -> mill.cut(0, 0, 1, 1, 1, 4));
        check.inequality("the first one stands", mill, 0, 2, 2, 5, 0);
    }

    private static void promise5Move() {
        check.sentence("SWAP, x and y change places; SLIDE, x becomes x and y together; FLIP, x becomes minus x");
        PointMill mill = Mills.of(2, -3, 7, 1, -1, 4, -6, -2);
        check.equal("swap", 2, () -> mill.move(0, PointMill.SWAP));
        check.inequality("swapped 0", mill, 0, -3, 2, 7, 1);
        check.inequality("swapped 1", mill, 1, 4, -1, -6, -2);
        check.equal("slide", 2, () -> mill.move(0, PointMill.SLIDE));
        check.inequality("slid 0", mill, 0, -3, 5, 7, 1);
        check.inequality("slid 1", mill, 1, 4, -5, -6, -2);
        check.equal("flip", 2, () -> mill.move(0, PointMill.FLIP));
        check.inequality("flipped 0", mill, 0, 3, 5, 7, 1);
        check.inequality("flipped 1", mill, 1, -4, -5, -6, -2);
        mill.shape();
        for (int move = 0; move < 3; move++) {
            int asked = move;
            check.equal("move without inequalities", 0, () -> mill.move(1, asked));
        }
    }

    private static void promise6Inequality() {
        check.sentence("inequality: Tells of an inequality. Returns as told");
        PointMill mill = Mills.of(1, -2, 3, -4);
        check.inequality("told", mill, 0, 1, -2, 3, -4);
        check.inequality("told again", mill, 0, 1, -2, 3, -4);
    }

    private static void isPlace(String text, boolean due, int... parts) {
        check.equal(text, Mills.number(due), () -> Mills.number(Mills.of(parts).isPlace(0)));
    }

    private static void promise7Places() {
        check.sentence("isPlace: Returns whether a shape is a place");
        isPlace("triangle", true, -1, 0, 0, 0, 0, -1, 0, 0, 1, 1, 5, 0);
        isPlace("triangle without points", true, -1, 0, -9, 0, 0, -1, -9, 0, 1, 1, 5, 0);
        isPlace("square", true, 1, 0, 1, 0, -1, 0, 1, 0, 0, 1, 1, 0, 0, -1, 1, 0);
        isPlace("thin wedge", true, 9, 8, 0, 0, -8, -7, 0, 0, -1, -1, 0, 0);
        isPlace("with an idle one", true, -1, 0, 0, 0, 0, -1, 0, 0, 1, 1, 5, 0, -9, -9, 99, 9);
    }

    private static void promise7NoPlaces() {
        check.sentence("isPlace: Returns whether a shape is a place: it is none");
        isPlace("nothing", false);
        isPlace("half a plane", false, 1, 1, 5, 0);
        isPlace("a strip", false, 1, 2, 5, 0, -1, -2, 5, 0);
        isPlace("a strip without points", false, 1, 0, -5, 0, -1, 0, -5, 0);
        isPlace("half a strip", false, 1, 0, 5, 0, -1, 0, 5, 0, 0, 1, 5, 0);
        isPlace("a quarter", false, 1, 0, 5, 0, 0, 1, 5, 0);
        isPlace("a thin quarter", false, 9, 8, 0, 0, -8, -7, 0, 0);
        isPlace("one step alone goes", false, 9, 8, 0, 0, -8, -9, 0, 0, -9, -8, 0, 0);
    }
}
