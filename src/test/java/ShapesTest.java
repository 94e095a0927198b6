/** Promises 1 to 7: a new object, shape, add, cut, move, inequality, isPlace. */
final class ShapesTest {
    private static final int LOWEST = Integer.MIN_VALUE;
    private static final int HIGHEST = Integer.MAX_VALUE;
    private static final Check check = new Check();

    public static void main(String[] args) {
        promise1NewObject();
        promise2Shape();
        promise3Add();
        promise3AddOrder();
        promise4Cut();
        promise4CutRefused();
        promise4CutEnds();
        promise4CutOrder();
        promise5Move();
        promise5SlideRefused();
        promise6Inequality();
        promise7Places();
        promise7NoPlaces();
        check.end();
    }

    /** A mill with one shape, 0, of the inequalities told, four numbers each. */
    static PointMill mill(int... parts) {
        PointMill mill = new PointMill();
        mill.shape();
        for (int i = 0; i + 3 < parts.length; i += 4) {
            mill.add(0, parts[i], parts[i + 1], parts[i + 2], parts[i + 3]);
        }
        return mill;
    }

    private static void isInequality(String text, PointMill mill, int number, int... parts) {
        for (int what = 0; what < parts.length; what++) {
            int asked = what;
            check.equal(text + ", part " + what, parts[what], () -> mill.inequality(0, number, asked));
        }
    }

    private static long number(boolean holds) {
        return holds ? 1 : 0;
    }

    private static void promise1NewObject() {
        PointMill mill = new PointMill();
        check.noIndex("new: isPlace(0)", () -> number(mill.isPlace(0)));
        check.noIndex("new: count(0, 0)", () -> mill.count(0, 0));
        check.noState("new: greatestGap()", () -> mill.greatestGap());
        check.equal("new: ways(0)", 1, () -> mill.ways(0));
        check.equal("new: ways(60)", 0, () -> mill.ways(60));
        check.equal("new: shape()", 0, () -> mill.shape());
        check.equal("new: coin(1)", 1, () -> mill.coin(1));
        PointMill second = new PointMill();
        check.equal("a second new one: shape()", 0, () -> second.shape());
        check.equal("a second new one: coin(2)", 1, () -> second.coin(2));
    }

    private static void promise2Shape() {
        PointMill mill = new PointMill();
        for (int i = 0; i < 8; i++) {
            int due = i;
            check.equal("shape() number " + i, due, () -> mill.shape());
            check.noIndex("a new shape is without inequalities", () -> mill.inequality(due, 0, 0));
        }
        check.noState("a ninth shape", () -> mill.shape());
        check.noState("a ninth shape again", () -> mill.shape());
        check.noIndex("shape 8", () -> number(mill.isPlace(8)));
        check.equal("shape 7 stands", 0, () -> mill.add(7, 1, 0, 0, 0));
    }

    private static void promise3Add() {
        PointMill mill = mill();
        int[][] rows = {{9, -9, 99, 9}, {-9, 9, -99, -9}, {0, 1, 0, 0}, {1, 0, 5, -3}};
        for (int i = 0; i < rows.length; i++) {
            int[] row = rows[i];
            check.equal("add " + i, i, () -> mill.add(0, row[0], row[1], row[2], row[3]));
            isInequality("added " + i, mill, i, row);
        }
        for (int i = 4; i < 10; i++) {
            int due = i;
            check.equal("add " + i, due, () -> mill.add(0, 1, 1, 1, 1));
        }
        check.noState("an eleventh inequality", () -> mill.add(0, 1, 1, 1, 1));
        isInequality("the first after that", mill, 0, 9, -9, 99, 9);
        mill.shape();
        check.equal("add to another shape", 0, () -> mill.add(1, 2, 2, 2, 2));
    }

    private static void promise3AddOrder() {
        PointMill mill = mill();
        int[] wrongShapes = {-1, 1, 8, LOWEST, HIGHEST};
        for (int shape : wrongShapes) {
            check.noIndex("add to " + shape, () -> mill.add(shape, 1, 1, 1, 1));
            check.noIndex("add wrong ones to " + shape, () -> mill.add(shape, 0, 0, 100, 10));
        }
        for (int far : new int[] {10, -10, LOWEST, HIGHEST}) {
            check.noArgument("add a " + far, () -> mill.add(0, far, 1, 1, 1));
            check.noArgument("add b " + far, () -> mill.add(0, 1, far, 1, 1));
            check.noArgument("add e " + far, () -> mill.add(0, 1, 1, 1, far));
        }
        for (int far : new int[] {100, -100, LOWEST, HIGHEST}) {
            check.noArgument("add c " + far, () -> mill.add(0, 1, 1, far, 1));
        }
        check.noArgument("add 0 and 0", () -> mill.add(0, 0, 0, 1, 1));
        check.equal("nothing was added", 0, () -> mill.add(0, 1, 1, 1, 1));
        for (int i = 1; i < 10; i++) {
            mill.add(0, 1, 1, 1, 1);
        }
        check.noArgument("a wrong one to a full shape", () -> mill.add(0, 0, 0, 1, 1));
    }

    private static void promise4Cut() {
        PointMill mill = mill(2, 2, 5, 0, -2, 2, 3, 0, 3, 0, -1, 0, 1, 2, 3, 4);
        check.equal("half of both", 4, () -> mill.cut(0, 0, 1, 1, 1, 4));
        isInequality("half of both", mill, 4, 0, 1, 2, 0);
        check.equal("rounded down below 0", 5, () -> mill.cut(0, 2, 1, 2, 0, 3));
        isInequality("rounded down below 0", mill, 5, 1, 0, -1, 0);
        check.equal("the same twice", 6, () -> mill.cut(0, 0, 1, 0, 2, 3));
        isInequality("the same twice", mill, 6, 2, 2, 5, 0);
        check.equal("the other one alone", 7, () -> mill.cut(0, 0, 0, 1, 9, 1));
        isInequality("the other one alone", mill, 7, -18, 18, 27, 0);
        check.equal("by 20", 8, () -> mill.cut(0, 7, 9, 7, 1, 20));
        isInequality("by 20", mill, 8, -9, 9, 13, 0);
        check.equal("of cuts", 9, () -> mill.cut(0, 4, 9, 4, 9, 18));
        isInequality("of cuts", mill, 9, 0, 1, 2, 0);
        check.noState("an eleventh one", () -> mill.cut(0, 0, 1, 1, 1, 4));
        isInequality("the first one stands", mill, 0, 2, 2, 5, 0);
    }

    private static void promise4CutRefused() {
        PointMill mill = mill(2, 3, 99, 0, -2, -3, -99, 0, 9, 0, 99, 0, 1, 1, 1, 1, 0, 9, -99, 0);
        check.noState("the one has a letter", () -> mill.cut(0, 3, 1, 0, 1, 1));
        check.noState("the other one has a letter", () -> mill.cut(0, 0, 1, 3, 1, 1));
        check.noState("a letter 0 times, the one", () -> mill.cut(0, 3, 0, 0, 1, 1));
        check.noState("a letter 0 times, the other one", () -> mill.cut(0, 0, 1, 3, 0, 1));
        check.noState("a cannot be divided", () -> mill.cut(0, 0, 1, 0, 0, 3));
        check.noState("b cannot be divided", () -> mill.cut(0, 0, 1, 0, 0, 2));
        check.noState("both would be 0", () -> mill.cut(0, 0, 1, 1, 1, 1));
        check.noState("both 0 times", () -> mill.cut(0, 0, 0, 1, 0, 1));
        check.noState("a above its range", () -> mill.cut(0, 2, 7, 2, 0, 1));
        check.noState("b above its range", () -> mill.cut(0, 4, 0, 4, 7, 1));
        check.noState("c above its range", () -> mill.cut(0, 0, 9, 0, 2, 1));
        check.noState("c below its range", () -> mill.cut(0, 1, 9, 1, 2, 1));
        check.equal("nothing was added", 5, () -> mill.cut(0, 0, 9, 0, 1, 1));
        isInequality("near the ends", mill, 5, 20, 30, 990, 0);
        check.equal("c below 0", 6, () -> mill.cut(0, 1, 9, 1, 1, 1));
        isInequality("c below 0", mill, 6, -20, -30, -990, 0);
        check.equal("54 and 54", 7, () -> mill.cut(0, 2, 6, 4, 6, 1));
        isInequality("54 and 54", mill, 7, 54, 54, 0, 0);
    }

    private static void promise4CutEnds() {
        PointMill mill = mill(6, -6, 0, 0, -6, 6, 0, 0, 1, 0, 99, 0, 0, 1, 12, 0, 0, 1, 26, 0, 0, 1, -99, 0);
        check.equal("60 and -60", 6, () -> mill.cut(0, 0, 9, 0, 1, 1));
        isInequality("60 and -60", mill, 6, 60, -60, 0, 0);
        check.equal("-60 and 60", 7, () -> mill.cut(0, 1, 9, 1, 1, 1));
        isInequality("-60 and 60", mill, 7, -60, 60, 0, 0);
        check.noState("a of 61", () -> mill.cut(0, 6, 1, 2, 1, 1));
        check.noState("b of 61", () -> mill.cut(0, 7, 1, 3, 1, 1));
        check.noState("b of -66", () -> mill.cut(0, 6, 1, 0, 1, 1));
        check.noState("a of -66", () -> mill.cut(0, 7, 1, 1, 1, 1));
        check.equal("c of 999", 8, () -> mill.cut(0, 2, 9, 3, 9, 1));
        isInequality("c of 999", mill, 8, 9, 9, 999, 0);
        check.noState("c of 1000", () -> mill.cut(0, 2, 8, 4, 8, 1));
        check.equal("c of 1000, halved", 9, () -> mill.cut(0, 2, 8, 4, 8, 2));
        isInequality("c of 1000, halved", mill, 9, 4, 4, 500, 0);

        PointMill low = mill(0, 1, -99, 0, 1, 0, -12, 0, 1, 0, -26, 0);
        check.equal("c of -999", 3, () -> low.cut(0, 0, 9, 1, 9, 1));
        isInequality("c of -999", low, 3, 9, 9, -999, 0);
        check.noState("c of -1000", () -> low.cut(0, 0, 8, 2, 8, 1));
        PointMill down = mill(4, 0, -99, 0, 0, 4, -98, 0, 4, 0, 99, 0);
        check.equal("-99 by 4", 3, () -> down.cut(0, 0, 1, 1, 0, 4));
        isInequality("-99 by 4", down, 3, 1, 0, -25, 0);
        check.equal("99 by 4", 4, () -> down.cut(0, 0, 0, 2, 1, 4));
        isInequality("99 by 4", down, 4, 1, 0, 24, 0);
        check.equal("-988 by 4", 5, () -> down.cut(0, 0, 8, 1, 2, 4));
        isInequality("-988 by 4", down, 5, 8, 2, -247, 0);
    }

    private static void promise4CutOrder() {
        PointMill mill = mill(2, 2, 5, 0, 1, 1, 1, 1);
        check.noIndex("no shape", () -> mill.cut(1, 0, 10, 0, 1, 0));
        check.noIndex("shape -1", () -> mill.cut(-1, 0, 1, 0, 1, 1));
        for (int number : new int[] {-1, 2, 9, 10, LOWEST, HIGHEST}) {
            check.noIndex("no one " + number, () -> mill.cut(0, number, 10, 0, 1, 0));
            check.noIndex("no other one " + number, () -> mill.cut(0, 0, 10, number, 1, 0));
        }
        for (int far : new int[] {-1, 10, LOWEST, HIGHEST}) {
            check.noArgument("some " + far, () -> mill.cut(0, 1, far, 0, 1, 1));
            check.noArgument("more " + far, () -> mill.cut(0, 1, 1, 0, far, 1));
        }
        for (int far : new int[] {0, -1, 21, LOWEST, HIGHEST}) {
            check.noArgument("by " + far, () -> mill.cut(0, 1, 1, 0, 1, far));
        }
        check.equal("nothing was added", 2, () -> mill.cut(0, 0, 1, 0, 0, 1));
    }

    private static void promise5Move() {
        PointMill mill = mill(2, -3, 7, 1, -1, 4, -6, -2);
        check.equal("swap", 2, () -> mill.move(0, PointMill.SWAP));
        isInequality("swapped 0", mill, 0, -3, 2, 7, 1);
        isInequality("swapped 1", mill, 1, 4, -1, -6, -2);
        check.equal("slide", 2, () -> mill.move(0, PointMill.SLIDE));
        isInequality("slid 0", mill, 0, -3, 5, 7, 1);
        isInequality("slid 1", mill, 1, 4, -5, -6, -2);
        check.equal("flip", 2, () -> mill.move(0, PointMill.FLIP));
        isInequality("flipped 0", mill, 0, 3, 5, 7, 1);
        isInequality("flipped 1", mill, 1, -4, -5, -6, -2);
        mill.shape();
        for (int move = 0; move < 3; move++) {
            int asked = move;
            check.equal("move without inequalities", 0, () -> mill.move(1, asked));
        }
        for (int move : new int[] {-1, 3, LOWEST, HIGHEST}) {
            check.noArgument("move " + move, () -> mill.move(0, move));
            check.noIndex("no shape, move " + move, () -> mill.move(2, move));
        }
        check.noIndex("shape -1", () -> mill.move(-1, 0));
    }

    private static void promise5SlideRefused() {
        PointMill mill = mill(1, 0, 0, 0, -9, 6, 0, 0);
        for (int i = 1; i <= 6; i++) {
            check.equal("slide " + i, 2, () -> mill.move(0, PointMill.SLIDE));
        }
        isInequality("60 is in its range", mill, 1, -9, 60, 0, 0);
        check.noState("b above its range", () -> mill.move(0, PointMill.SLIDE));
        isInequality("nothing changed, 0", mill, 0, 1, -6, 0, 0);
        isInequality("nothing changed, 1", mill, 1, -9, 60, 0, 0);
        mill.move(0, PointMill.FLIP);
        mill.move(0, PointMill.SLIDE);
        isInequality("back again", mill, 1, 9, 51, 0, 0);
        PointMill low = mill(9, -6, 0, 0);
        for (int i = 1; i <= 6; i++) {
            low.move(0, PointMill.SLIDE);
        }
        isInequality("-60 is in its range", low, 0, 9, -60, 0, 0);
        check.noState("b below its range", () -> low.move(0, PointMill.SLIDE));
        check.equal("a swap goes", 1, () -> low.move(0, PointMill.SWAP));
        isInequality("a of -60", low, 0, -60, 9, 0, 0);
        check.noState("69 is out of its range", () -> low.move(0, PointMill.SLIDE));
    }

    private static void promise6Inequality() {
        PointMill mill = mill(1, -2, 3, -4);
        isInequality("told", mill, 0, 1, -2, 3, -4);
        for (int number : new int[] {-1, 1, 10, LOWEST, HIGHEST}) {
            check.noIndex("inequality " + number, () -> mill.inequality(0, number, 4));
        }
        for (int shape : new int[] {-1, 1, 8, LOWEST, HIGHEST}) {
            check.noIndex("of shape " + shape, () -> mill.inequality(shape, 0, 4));
        }
        for (int what : new int[] {-1, 4, LOWEST, HIGHEST}) {
            check.noArgument("what " + what, () -> mill.inequality(0, 0, what));
        }
    }

    private static void isPlace(String text, boolean due, int... parts) {
        check.equal(text, number(due), () -> number(mill(parts).isPlace(0)));
    }

    private static void promise7Places() {
        isPlace("triangle", true, -1, 0, 0, 0, 0, -1, 0, 0, 1, 1, 5, 0);
        isPlace("triangle without points", true, -1, 0, -9, 0, 0, -1, -9, 0, 1, 1, 5, 0);
        isPlace("square", true, 1, 0, 1, 0, -1, 0, 1, 0, 0, 1, 1, 0, 0, -1, 1, 0);
        isPlace("thin wedge", true, 9, 8, 0, 0, -8, -7, 0, 0, -1, -1, 0, 0);
        isPlace("with an idle one", true, -1, 0, 0, 0, 0, -1, 0, 0, 1, 1, 5, 0, -9, -9, 99, 9);
    }

    private static void promise7NoPlaces() {
        isPlace("nothing", false);
        isPlace("half a plane", false, 1, 1, 5, 0);
        isPlace("a strip", false, 1, 2, 5, 0, -1, -2, 5, 0);
        isPlace("a strip without points", false, 1, 0, -5, 0, -1, 0, -5, 0);
        isPlace("half a strip", false, 1, 0, 5, 0, -1, 0, 5, 0, 0, 1, 5, 0);
        isPlace("a quarter", false, 1, 0, 5, 0, 0, 1, 5, 0);
        isPlace("a thin quarter", false, 9, 8, 0, 0, -8, -7, 0, 0);
        isPlace("one step alone goes", false, 9, 8, 0, 0, -8, -9, 0, 0, -9, -8, 0, 0);
        PointMill mill = mill(1, 0, 0, 0);
        for (int shape : new int[] {-1, 1, 8, LOWEST, HIGHEST}) {
            check.noIndex("shape " + shape, () -> number(mill.isPlace(shape)));
        }
    }
}
