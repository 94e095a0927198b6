/**
 * The last answers that are allowed, of promises 8 to 11 and the terms that they use: a method for each sentence that
 * names a boundary. What lies beyond is in RefusalsTest too.
 */
final class CountEdgesTest {
    private static final Check check = new Check();
    /** x of -2 to 3, y of -4 to 1. */
    private static final int[] SQUARE = {1, 0, 3, 0, -1, 0, 2, 0, 0, 1, 1, 0, 0, -1, 4, 0};
    /** x of 5 at most and of 6 at least. */
    private static final int[] NO_POINTS = {1, 0, 5, 0, -1, 0, -6, 0, 0, 1, 5, 0, 0, -1, 5, 0};
    private static final int[] ONE_POINT = {1, 0, 3, 0, -1, 0, -3, 0, 0, 1, -7, 0, 0, -1, 7, 0};
    /** The one point lies in the middle between two whole ones. */
    private static final int[] BROKEN_POINT = {2, 0, 1, 0, -2, 0, -1, 0, 0, 1, 0, 0, 0, -1, 0, 0};

    public static void main(String[] args) {
        pointsReachTheLimit();
        pointsAreWhole();
        pointsBelow0AreRoundedInward();
        theLetterReachesItsEnds();
        theLetterTimesItsEnds();
        aPlaceMayHaveNoPoints();
        withoutInequalitiesNothingIsCounted();
        noPlaceIsNotCounted();
        aFullShapeIsCounted();
        innerPointsAreNotJustEqual();
        innerPointsOfThinShapes();
        blownByItsEnds();
        blownBy0();
        blownBy1IsTheShape();
        blownHasTheLetter0();
        blownTakesCOfCuts();
        bestReachesTheEndsOfPAndQ();
        bestTellsEachWhat();
        bestOfSeveralTakesTheLeastX();
        bestOfSeveralTakesTheLeastY();
        bestOfOnePointAndOfNone();
        bestMayBeBelow0();
        cutsLoseNoPoints();
        movesKeepTheNumber();
        pointsMayLieFarOff();
        check.end();
    }

    private static void blown(String text, PointMill mill, int times, long due, long inner) {
        check.equal(text + ", blown by " + times, due, () -> mill.blown(0, times, false));
        check.equal(text + ", blown by " + times + ", inner", inner, () -> mill.blown(0, times, true));
    }

    private static void notCounted(String text, PointMill mill) {
        for (int letter : new int[] {0, 9}) {
            check.noState(text + ", count", () -> mill.count(0, letter));
            check.noState(text + ", countAnew", () -> mill.countAnew(0, letter));
            check.noState(text + ", best", () -> mill.best(0, letter, 1, 1, 0));
            check.noState(text + ", blown", () -> mill.blown(0, letter, false));
            check.noState(text + ", blown, inner", () -> mill.blown(0, letter, true));
        }
    }

    private static void pointsReachTheLimit() {
        check.sentence("a times x, and b times y, together, is at most c");
        check.counts("just equal in all of them", 1, 0, Mills.of(1, 0, 0, 0, -1, 0, 0, 0, 0, 1, 0, 0, 0, -1, 0, 0));
        check.counts("x of 0 to 2", 3, 0, Mills.of(1, 0, 2, 0, -1, 0, 0, 0, 0, 1, 0, 0, 0, -1, 0, 0));
        check.counts("y of 0 to 2", 3, 0, Mills.of(1, 0, 0, 0, -1, 0, 0, 0, 0, 1, 2, 0, 0, -1, 0, 0));
        check.counts("x of -2 to 0", 3, 0, Mills.of(1, 0, 0, 0, -1, 0, 2, 0, 0, 1, 0, 0, 0, -1, 0, 0));
        check.counts("y of -2 to 0", 3, 0, Mills.of(1, 0, 0, 0, -1, 0, 0, 0, 0, 1, 0, 0, 0, -1, 2, 0));
        check.counts("just none by x", 0, 0, Mills.of(1, 0, -1, 0, -1, 0, 0, 0, 0, 1, 0, 0, 0, -1, 0, 0));
        check.counts("just none by y", 0, 0, Mills.of(1, 0, 0, 0, -1, 0, 0, 0, 0, 1, -1, 0, 0, -1, 0, 0));
        check.counts("a corner aslant", 6, 0, Mills.of(1, 1, 2, 0, -1, 0, 0, 0, 0, -1, 0, 0));
        check.counts("a corner aslant, one less", 3, 0, Mills.of(1, 1, 1, 0, -1, 0, 0, 0, 0, -1, 0, 0));
        check.counts("a corner aslant, just there", 1, 0, Mills.of(1, 1, 0, 0, -1, 0, 0, 0, 0, -1, 0, 0));
        check.counts("a corner aslant, just gone", 0, 0, Mills.of(1, 1, -1, 0, -1, 0, 0, 0, 0, -1, 0, 0));
    }

    private static void pointsAreWhole() {
        check.sentence("The points of a shape are the pairs of whole numbers");
        check.counts("a broken x", 0, 0, Mills.of(BROKEN_POINT));
        check.counts("a broken y", 0, 0, Mills.of(1, 0, 0, 0, -1, 0, 0, 0, 0, 2, 1, 0, 0, -2, -1, 0));
        check.counts("between whole lines", 0, 0, Mills.of(2, 2, 5, 0, -2, -2, -5, 0, 1, 0, 9, 0, -1, 0, 9, 0));
        check.counts("on a whole line", 19, 0, Mills.of(2, 2, 6, 0, -2, -2, -6, 0, 1, 0, 9, 0, -1, 0, 9, 0));
        check.counts("a thin triangle", 0, 0, Mills.of(3, 0, 2, 0, -3, 0, -1, 0, 0, 1, 9, 0, 0, -1, 9, 0));
        check.counts("broken ends", 9, 0, Mills.of(2, 0, 3, 0, -2, 0, 3, 0, 0, 2, 3, 0, 0, -2, 3, 0));
        check.counts("a broken corner", 3, 0, Mills.of(2, 2, 3, 0, -1, 0, 0, 0, 0, -1, 0, 0));
    }

    private static void pointsBelow0AreRoundedInward() {
        check.sentence("The points are the pairs of whole numbers by which all inequalities are so, below 0");
        check.counts("x of -7/3 to -4/3", 1, 0, Mills.of(3, 0, -4, 0, -3, 0, 7, 0, 0, 1, 0, 0, 0, -1, 0, 0));
        check.counts("x of -5/3 to -4/3", 0, 0, Mills.of(3, 0, -4, 0, -3, 0, 5, 0, 0, 1, 0, 0, 0, -1, 0, 0));
        check.counts("x of -6/3 to -3/3", 2, 0, Mills.of(3, 0, -3, 0, -3, 0, 6, 0, 0, 1, 0, 0, 0, -1, 0, 0));
        check.counts("y of -7/3 to -4/3", 1, 0, Mills.of(1, 0, 0, 0, -1, 0, 0, 0, 0, 3, -4, 0, 0, -3, 7, 0));
        check.counts("y of -5/3 to -4/3", 0, 0, Mills.of(1, 0, 0, 0, -1, 0, 0, 0, 0, 3, -4, 0, 0, -3, 5, 0));
        check.counts("y of -6/3 to -3/3", 2, 0, Mills.of(1, 0, 0, 0, -1, 0, 0, 0, 0, 3, -3, 0, 0, -3, 6, 0));
        check.counts("y of -1/3 to 1/3", 1, 0, Mills.of(1, 0, 0, 0, -1, 0, 0, 0, 0, 3, 1, 0, 0, -3, 1, 0));
    }

    private static void theLetterReachesItsEnds() {
        check.sentence("the letter is 0 to 9");
        PointMill growing = Mills.of(1, 0, 0, 1, -1, 0, 0, 0, 0, 1, 0, 0, 0, -1, 0, 1);
        for (int letter = 0; letter <= 9; letter++) {
            check.counts("growing, " + letter, (letter + 1) * (letter + 1), letter, growing);
            check.best("growing, " + letter, growing, letter, 1, 0, letter, letter, -letter);
        }
        for (int letter : Mills.beyond(0, 9)) {
            check.noArgument("count, " + letter, () -> growing.count(0, letter));
            check.noArgument("countAnew, " + letter, () -> growing.countAnew(0, letter));
            check.noArgument("best, " + letter, () -> growing.best(0, letter, 1, 1, 0));
        }
    }

    private static void theLetterTimesItsEnds() {
        check.sentence("e times the letter, together; e is -9 to 9");
        PointMill up = Mills.of(1, 0, 99, 9, -1, 0, 99, 9, 0, 1, 0, 0, 0, -1, 0, 0);
        check.counts("up, 0", 199, 0, up);
        check.counts("up, 9", 361, 9, up);
        PointMill down = Mills.of(1, 0, 81, -9, -1, 0, 0, 0, 0, 1, 0, 0, 0, -1, 0, 0);
        check.counts("down, 0", 82, 0, down);
        check.counts("down, 8", 10, 8, down);
        check.counts("down, just there", 1, 9, down);
        PointMill gone = Mills.of(1, 0, 80, -9, -1, 0, 0, 0, 0, 1, 0, 0, 0, -1, 0, 0);
        check.counts("down, 8, one less", 9, 8, gone);
        check.counts("down, just gone", 0, 9, gone);
        check.noState("best, just gone", () -> gone.best(0, 9, 1, 1, 0));
        PointMill low = Mills.of(1, 0, -99, -9, -1, 0, 99, 9, 0, 1, 0, 0, 0, -1, 0, 0);
        check.counts("-180 alone", 1, 9, low);
        check.best("-180 alone", low, 9, 1, 0, -180, -180, 0);
    }

    private static void aPlaceMayHaveNoPoints() {
        check.sentence("count, countAnew, blown: Returns how many, of a place without points");
        PointMill mill = Mills.of(NO_POINTS);
        check.equal("it is a place", 1, () -> Mills.number(mill.isPlace(0)));
        check.counts("none", 0, 0, mill);
        blown("none", mill, 1, 0, 0);
        blown("none", mill, 9, 0, 0);
        blown("none", mill, 0, 1, 0);
        check.counts("crossed edges", 0, 0, Mills.of(-1, 0, -3, 0, 0, -1, -3, 0, 1, 1, 5, 0));
        check.counts("crossed edges, just there", 1, 0, Mills.of(-1, 0, -3, 0, 0, -1, -3, 0, 1, 1, 6, 0));
        check.counts("none by a column alone", 0, 0, Mills.of(1, 0, 0, 0, -1, 0, -1, 0, 1, 1, 9, 0, -1, -1, 9, 0));
        check.counts("none by a row alone", 0, 0, Mills.of(0, 1, 0, 0, 0, -1, -1, 0, 1, 1, 9, 0, -1, -1, 9, 0));
        check.counts("far from one another", 0, 9, Mills.of(9, 8, -99, -9, -8, -7, -99, -9, -1, -1, -99, -9));
    }

    private static void withoutInequalitiesNothingIsCounted() {
        check.sentence("IllegalStateException if it is no place (without inequalities it is none)");
        notCounted("without inequalities", Mills.of());
        PointMill mill = Mills.of(1, 0, 3, 0, -1, 0, 3, 0, 0, 1, 3, 0, 0, -1, 3, 0);
        mill.shape();
        check.counts("another one", 49, 0, mill);
        check.noState("count beside another one", () -> mill.count(1, 0));
        check.noState("countAnew beside another one", () -> mill.countAnew(1, 0));
        check.noState("blown beside another one", () -> mill.blown(1, 0, true));
        check.noState("best beside another one", () -> mill.best(1, 0, 1, 1, 0));
        check.counts("another one again", 49, 0, mill);
    }

    private static void noPlaceIsNotCounted() {
        check.sentence("IllegalStateException if it is no place");
        notCounted("half a plane", Mills.of(1, 1, 0, 0));
        notCounted("a quarter", Mills.of(1, 0, 5, 0, 0, 1, 5, 0));
        notCounted("a strip", Mills.of(2, 3, 5, 0, -2, -3, 5, 0));
        notCounted("a strip without points", Mills.of(1, 0, -5, 0, -1, 0, -5, 0));
        notCounted("half a strip", Mills.of(1, 0, 5, 0, -1, 0, 5, 0, 0, 1, 5, 0));
        notCounted("a half line without a whole point", Mills.of(2, 2, 1, 0, -2, -2, -1, 0, 1, 0, 5, 0));
        notCounted("a thin wedge", Mills.of(9, 8, 0, 0, -8, -7, 0, 0));
        PointMill mill = Mills.of(1, 0, 5, 0, -1, 0, 5, 0, 0, 1, 5, 0);
        notCounted("still open", mill);
        mill.add(0, 9, -1, 99, 0);
        check.counts("closed", 1155, 0, mill);
    }

    /** Ten inequalities: each of the last ones shuts out points of its own. */
    private static void aFullShapeIsCounted() {
        check.sentence("A shape is a row of inequalities, at most 10");
        int[] rows = {
            1, 0, 5, 0, -1, 0, 5, 0, 0, 1, 5, 0, 0, -1, 5, 0, 1, 1, 9, 0, 1, -1, 9, 0, -1, 1, 9, 0, -1, -1, 9, 0,
            2, 1, 13, 0, 1, 2, 12, 0
        };
        long[] due = {121, 120, 119, 118, 117, 116, 114};
        PointMill mill = Mills.of(java.util.Arrays.copyOf(rows, 16));
        for (int i = 4; i <= 10; i++) {
            check.counts("of " + i, due[i - 4], 0, mill);
            if (i < 10) {
                mill.add(0, rows[4 * i], rows[4 * i + 1], rows[4 * i + 2], rows[4 * i + 3]);
            }
        }
        check.noState("an eleventh one", () -> mill.add(0, 1, 0, 0, 0));
        check.counts("of 10 still", 114, 0, mill);
        check.best("of 10", mill, 0, 1, 1, 8, 4, 4);
        blown("of 10", mill, 1, 114, 80);
        for (int move : new int[] {0, 1, 2, 1, 0}) {
            mill.move(0, move);
            check.counts("of 10, moved by " + move, 114, 0, mill);
        }
    }

    private static void innerPointsAreNotJustEqual() {
        check.sentence("those by which each is so and not just equal are inner ones");
        blown("a square", Mills.of(SQUARE), 1, 36, 16);
        PointMill triangle = Mills.of(-1, 0, 0, 0, 0, -1, 0, 0, 1, 1, 3, 0);
        blown("a triangle", triangle, 1, 10, 1);
        blown("a triangle", triangle, 2, 28, 10);
        blown("an idle one that just touches", Mills.of(-1, 0, 0, 0, 0, -1, 0, 0, 1, 1, 3, 0, 1, 0, 3, 0), 1, 10, 1);
        blown("an idle one through an inner one", Mills.of(-1, 0, 0, 0, 0, -1, 0, 0, 1, 1, 3, 0, 2, 1, 3, 0), 1, 6, 0);
        blown("an idle one that touches none", Mills.of(-1, 0, 0, 0, 0, -1, 0, 0, 1, 1, 3, 0, 1, 0, 4, 0), 1, 10, 1);
        blown("no whole point on an edge", Mills.of(2, 0, 3, 0, -2, 0, 3, 0, 0, 2, 3, 0, 0, -2, 3, 0), 1, 9, 9);
        blown("edges of broken numbers", Mills.of(2, 2, 5, 0, -1, 0, 0, 0, 0, -1, 0, 0), 1, 6, 1);
    }

    private static void innerPointsOfThinShapes() {
        check.sentence("those by which each is so and not just equal are inner ones: of thin shapes");
        blown("one point", Mills.of(ONE_POINT), 1, 1, 0);
        blown("one point", Mills.of(ONE_POINT), 9, 1, 0);
        blown("no whole point", Mills.of(BROKEN_POINT), 1, 0, 0);
        blown("no whole point, made whole", Mills.of(BROKEN_POINT), 2, 1, 0);
        blown("a line", Mills.of(1, 1, 5, 0, -1, -1, -5, 0, -1, 0, 0, 0, 0, -1, 0, 0), 1, 6, 0);
        blown("two lines", Mills.of(1, 0, 1, 0, -1, 0, 0, 0, 0, 1, 5, 0, 0, -1, 0, 0), 1, 12, 0);
        blown("three lines", Mills.of(1, 0, 2, 0, -1, 0, 0, 0, 0, 1, 5, 0, 0, -1, 0, 0), 1, 18, 4);
    }

    private static void blownByItsEnds() {
        check.sentence("blown: times: 0 to 9");
        PointMill square = Mills.of(SQUARE);
        blown("a square", square, 0, 1, 0);
        blown("a square", square, 1, 36, 16);
        blown("a square", square, 8, 41 * 41, 39 * 39);
        blown("a square", square, 9, 46 * 46, 44 * 44);
        for (int times : Mills.beyond(0, 9)) {
            check.noArgument("times " + times, () -> square.blown(0, times, false));
            check.noArgument("times " + times + ", inner", () -> square.blown(0, times, true));
        }
    }

    private static void blownBy0() {
        check.sentence("To blow a shape up by some number is to take c that many times: 0 times");
        blown("a square", Mills.of(SQUARE), 0, 1, 0);
        blown("one point", Mills.of(ONE_POINT), 0, 1, 0);
        blown("no points", Mills.of(NO_POINTS), 0, 1, 0);
        blown("no whole point", Mills.of(BROKEN_POINT), 0, 1, 0);
        blown("a letter", Mills.of(1, 0, 9, 9, -1, 0, 9, 9, 0, 1, 9, -9, 0, -1, -9, -9), 0, 1, 0);
    }

    private static void blownBy1IsTheShape() {
        check.sentence("To blow a shape up by some number is to take c that many times: once");
        int[][] shapes = {SQUARE, ONE_POINT, NO_POINTS, BROKEN_POINT, {-1, 0, 0, 3, 0, -1, 0, 2, 2, 3, 12, 1}};
        for (int[] shape : shapes) {
            PointMill mill = Mills.of(shape);
            long due = mill.count(0, 0);
            check.equal("once", due, () -> mill.blown(0, 1, false));
        }
    }

    private static void blownHasTheLetter0() {
        check.sentence("To blow a shape up: the letter is 0 then");
        PointMill mill = Mills.of(1, 0, 1, 9, -1, 0, 1, 9, 0, 1, 1, -9, 0, -1, 1, -9);
        blown("letters up and down", mill, 1, 9, 1);
        blown("letters up and down", mill, 9, 361, 289);
        check.equal("with a letter", 0, () -> mill.count(0, 1));
        blown("after a letter", mill, 2, 25, 9);
    }

    /** Twice 5/2 is a whole number, but c of the cut was rounded down ahead of it. */
    private static void blownTakesCOfCuts() {
        check.sentence("to take c that many times, of a cut too");
        PointMill mill = Mills.of(2, 0, 5, 0, -1, 0, 0, 0, 0, 1, 0, 0, 0, -1, 0, 0);
        blown("ahead of a cut", mill, 2, 6, 0);
        check.equal("cut", 4, () -> mill.cut(0, 0, 1, 0, 0, 2));
        blown("after a cut", mill, 1, 3, 0);
        blown("after a cut", mill, 2, 5, 0);
        blown("after a cut", mill, 9, 19, 0);
    }

    private static void bestReachesTheEndsOfPAndQ() {
        check.sentence("best: p: -99 to 99; q: -99 to 99");
        PointMill mill = Mills.of(SQUARE);
        check.best("99 and 99", mill, 0, 99, 99, 396, 3, 1);
        check.best("99 and -99", mill, 0, 99, -99, 693, 3, -4);
        check.best("-99 and 99", mill, 0, -99, 99, 297, -2, 1);
        check.best("-99 and -99", mill, 0, -99, -99, 594, -2, -4);
        for (int far : Mills.beyond(-99, 99)) {
            check.noArgument("p " + far, () -> mill.best(0, 0, far, 0, 0));
            check.noArgument("q " + far, () -> mill.best(0, 0, 0, far, 0));
        }
    }

    private static void bestTellsEachWhat() {
        check.sentence("best: what: 0 what is greatest, 1 x, 2 y");
        PointMill mill = Mills.of(SQUARE);
        check.noArgument("-1", () -> mill.best(0, 0, 7, -5, -1));
        check.equal("0", 41, () -> mill.best(0, 0, 7, -5, 0));
        check.equal("1", 3, () -> mill.best(0, 0, 7, -5, 1));
        check.equal("2", -4, () -> mill.best(0, 0, 7, -5, 2));
        check.noArgument("3", () -> mill.best(0, 0, 7, -5, 3));
    }

    private static void bestOfSeveralTakesTheLeastX() {
        check.sentence("best: of several the least x");
        check.best("up", Mills.of(SQUARE), 0, 0, 1, 1, -2, 1);
        check.best("down", Mills.of(SQUARE), 0, 0, -1, 4, -2, -4);
        check.best("falling edge", Mills.of(1, 1, 3, 0, -1, 0, 0, 0, 0, -1, 0, 0), 0, 1, 1, 3, 0, 3);
        check.best("falling edge, 9 times", Mills.of(1, 1, 3, 0, -1, 0, 0, 0, 0, -1, 0, 0), 0, 9, 9, 27, 0, 3);
        check.best("rising edge", Mills.of(-1, 1, 0, 0, 1, 0, 3, 0, 0, -1, 0, 0), 0, -1, 1, 0, 0, 0);
        check.best("rising edge below", Mills.of(1, -1, 0, 0, -1, 0, 3, 0, 0, 1, 0, 0), 0, 1, -1, 0, -3, -3);
        check.best("broken edge", Mills.of(2, 2, 7, 0, -1, 0, 0, 0, 0, -1, 0, 0), 0, 1, 1, 3, 0, 3);
        check.best("every third point", Mills.of(2, 3, 12, 0, -1, 0, -1, 0, 0, -1, 0, 0), 0, 2, 3, 12, 3, 2);
        check.best("a line", Mills.of(1, 1, 0, 0, -1, -1, 0, 0, 1, 0, 4, 0, -1, 0, 5, 0), 0, 7, 7, 0, -5, 5);
    }

    private static void bestOfSeveralTakesTheLeastY() {
        check.sentence("best: of several the least x, then the least y");
        check.best("right", Mills.of(SQUARE), 0, 1, 0, 3, 3, -4);
        check.best("left", Mills.of(SQUARE), 0, -1, 0, 2, -2, -4);
        check.best("all alike", Mills.of(SQUARE), 0, 0, 0, 0, -2, -4);
        check.best("all alike, a triangle", Mills.of(-1, 0, 0, 0, 0, -1, 0, 0, 1, 1, 3, 0), 0, 0, 0, 0, 0, 0);
        check.best("all alike, corner to the left", Mills.of(-1, 1, 3, 0, -1, -1, 3, 0, 1, 0, 0, 0), 0, 0, 0, 0, -3, 0);
        check.best("a broken corner", Mills.of(-2, 2, 5, 0, -2, -2, 5, 0, 1, 0, 0, 0), 0, 0, 0, 0, -2, 0);
        check.best("a column", Mills.of(1, 0, 2, 0, -1, 0, -2, 0, 0, 1, 5, 0, 0, -1, 6, 0), 0, 5, 0, 10, 2, -6);
    }

    private static void bestOfOnePointAndOfNone() {
        check.sentence("best: IllegalStateException if it has no points");
        check.best("one point", Mills.of(ONE_POINT), 0, 2, 3, -15, 3, -7);
        check.best("one point, all alike", Mills.of(ONE_POINT), 9, 0, 0, 0, 3, -7);
        for (int[] shape : new int[][] {NO_POINTS, BROKEN_POINT}) {
            PointMill mill = Mills.of(shape);
            for (int what = 0; what < 3; what++) {
                int asked = what;
                check.noState("none", () -> mill.best(0, 0, 1, 1, asked));
                check.noState("none, all alike", () -> mill.best(0, 0, 0, 0, asked));
            }
        }
        PointMill mill = Mills.of(1, 0, 3, -1, -1, 0, 0, 0, 0, 1, 1, 0, 0, -1, 0, 0);
        check.best("two points are left", mill, 3, 1, 1, 1, 0, 1);
        check.noState("none by the letter", () -> mill.best(0, 4, 1, 1, 0));
        check.best("after a refused one", mill, 3, 1, -1, 0, 0, 0);
    }

    private static void bestMayBeBelow0() {
        check.sentence("best: p times x, and q times y, together, is greatest: also below 0");
        PointMill mill = Mills.of(1, 0, -3, 0, -1, 0, 5, 0, 0, 1, -2, 0, 0, -1, 4, 0);
        check.best("1 and 1", mill, 0, 1, 1, -5, -3, -2);
        check.best("99 and 99", mill, 0, 99, 99, -495, -3, -2);
        check.best("1 and 0", mill, 0, 1, 0, -3, -3, -4);
        check.best("0 and 1", mill, 0, 0, 1, -2, -5, -2);
        PointMill one = Mills.of(1, 0, -1, 0, -1, 0, 1, 0, 0, 1, -1, 0, 0, -1, 1, 0);
        check.best("to -1, which is no NONE", one, 0, 1, 0, -1, -1, -1);
    }

    private static void cutsLoseNoPoints() {
        check.sentence("A cut: c is rounded down, and no point is lost");
        PointMill mill = Mills.of(2, 2, 5, 0, -2, 2, 3, 0, 0, -3, 8, 0);
        check.counts("ahead of cuts", 20, 0, mill);
        int[][] cuts = {{0, 1, 1, 1, 4}, {0, 1, 0, 0, 2}, {1, 0, 1, 1, 2}, {2, 0, 2, 1, 3}, {0, 9, 2, 6, 9}};
        for (int[] c : cuts) {
            mill.cut(0, c[0], c[1], c[2], c[3], c[4]);
            check.counts("cut " + java.util.Arrays.toString(c), 20, 0, mill);
        }
    }

    private static void movesKeepTheNumber() {
        check.sentence("A move changes all inequalities of a shape, so that a point goes to another one");
        PointMill mill = Mills.of(-1, 0, 0, 0, 0, -1, 0, 0, 2, 3, 12, 1);
        check.best("ahead of moves", mill, 0, 1, 2, 8, 0, 4);
        mill.move(0, PointMill.SWAP);
        check.best("0 and 4 goes to 4 and 0", mill, 0, 2, 1, 8, 4, 0);
        mill.move(0, PointMill.SLIDE);
        check.best("6 and 0 is 0 and 6 by now, and goes to 6 and 6", mill, 0, 0, 1, 6, 6, 6);
        mill.move(0, PointMill.FLIP);
        check.best("6 and 6 goes to -6 and 6", mill, 0, 0, 1, 6, -6, 6);
        check.counts("after three moves", 19, 0, mill);
        check.counts("after three moves", 48, 9, mill);
        blown("after three moves", mill, 2, 61, 37);
    }

    /** Edges that are almost alike cross far off; slides and great letters carry their corners further. */
    private static void pointsMayLieFarOff() {
        check.sentence("Each of a and b is -60 to 60, c is -999 to 999: points may lie far off");
        PointMill mill = Mills.of(9, 8, 99, 9, -8, -7, 99, 9, -1, -1, 99, 9);
        check.counts("a far corner", 44551, 0, mill);
        check.counts("a far corner, by a letter", 146611, 9, mill);
        check.best("a far corner", mill, 9, 0, 1, 3060, -2700, 3060);
        check.best("a far corner, 99 and -99", mill, 9, -99, 99, 570240, -2700, 3060);
        blown("a far corner", mill, 9, 3576475, 3568456);
        int[] moves = {1, 1, 1, 0, 1, 1, 2, 0};
        for (int move : moves) {
            mill.move(0, move);
            check.counts("a far corner, moved by " + move, 146611, 9, mill);
            blown("a far corner, moved by " + move, mill, 9, 3576475, 3568456);
        }
    }
}
