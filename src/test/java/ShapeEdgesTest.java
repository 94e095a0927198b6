/**
 * The last answers that are allowed, of promises 1 to 7 and the terms that they use: a method for each sentence that
 * names a boundary. What lies beyond is in RefusalsTest too.
 */
final class ShapeEdgesTest {
    private static final Check check = new Check();

    public static void main(String[] args) {
        anObjectServes512Calls();
        aNewObjectHasNoShapes();
        aNewObjectHasNoCoins();
        objectsAreApart();
        shapesAreNumberedFrom0AtMost8();
        aShapeIsMadeWithoutInequalities();
        inequalitiesAreNumberedFrom0AtMost10();
        eachShapeHasItsOwn10();
        addTakesEachArgumentToItsEnds();
        addTakesOneOfBothBeing0();
        cutTakesSomeMoreAndByToTheirEnds();
        cutTakesTheFirstAndTheLastInequality();
        cutTakesTheSameTwice();
        cutRoundsDownAlsoBelow0();
        cutReachesTheEndsOfAAndB();
        cutReachesTheEndsOfC();
        cutMakesOneOfBothBeing0();
        cutMakesATenthOne();
        cutHasNoLetter();
        moveTakesSwapToFlip();
        moveChangesAllInequalities();
        moveTellsHowMany();
        slideReachesTheEndsOfB();
        otherMovesGoWhereSlideDoesNot();
        inequalityTakesWhatToItsEnds();
        placeWithoutInequalitiesIsNone();
        placeLeavesNoStepAtAll();
        placeAsksForStepsAlone();
        placeBySlightAngles();
        placeOfAFullShape();
        placeIsKeptByMovesAndCuts();
        check.end();
    }

    /** Asks for the cut, which must have that number, and for its parts. */
    private static void isCut(PointMill mill, int number, int[] asked, int... parts) {
        String text = java.util.Arrays.toString(asked);
        check.equal(text, number, () -> mill.cut(0, asked[0], asked[1], asked[2], asked[3], asked[4]));
        check.inequality(text, mill, number, parts);
    }

    private static int[] cut(int one, int some, int other, int more, int by) {
        return new int[] {one, some, other, more, by};
    }

    private static void anObjectServes512Calls() {
        check.sentence("An object is used for at most 512 calls after it has been made");
        PointMill mill = Mills.of(-1, 0, 0, 0, 0, -1, 0, 0, 2, 3, 12, 1);
        mill.coin(6);
        mill.coin(5);
        int[] first = {1, 0, 3, 7};
        for (int calls = 6; calls < 506; calls++) {
            mill.index(first[0], first[1], first[2], first[3]);
        }
        check.equal("the 507th call", 19, () -> mill.count(0, 0));
        check.equal("the 508th call", 4, () -> mill.generator(1, 0, 3, 7, PointMill.NONE, true));
        check.noState("the 509th call", () -> mill.cut(0, 2, 1, 2, 1, 1));
        check.equal("the 510th call", 10, () -> mill.gap(PointMill.NONE));
        check.equal("the 511th call", 3, () -> mill.add(0, 1, 1, 5, 0));
        check.equal("the 512th call", 18, () -> mill.count(0, 0));
    }

    private static void aNewObjectHasNoShapes() {
        check.sentence("PointMill(): No shapes");
        PointMill mill = new PointMill();
        for (int shape = 0; shape < 8; shape++) {
            int asked = shape;
            check.noIndex("isPlace " + shape, () -> Mills.number(mill.isPlace(asked)));
            check.noIndex("add " + shape, () -> mill.add(asked, 1, 1, 1, 1));
            check.noIndex("cut " + shape, () -> mill.cut(asked, 0, 1, 0, 1, 1));
            check.noIndex("move " + shape, () -> mill.move(asked, 0));
            check.noIndex("inequality " + shape, () -> mill.inequality(asked, 0, 0));
            check.noIndex("count " + shape, () -> mill.count(asked, 0));
            check.noIndex("countAnew " + shape, () -> mill.countAnew(asked, 0));
            check.noIndex("blown " + shape, () -> mill.blown(asked, 1, false));
            check.noIndex("best " + shape, () -> mill.best(asked, 0, 1, 1, 0));
        }
        check.equal("the first shape", 0, () -> mill.shape());
    }

    private static void aNewObjectHasNoCoins() {
        check.sentence("PointMill(): no coins");
        PointMill mill = new PointMill();
        for (int sum = 0; sum <= 60; sum++) {
            int asked = sum;
            check.equal("ways " + sum, sum == 0 ? 1 : 0, () -> mill.ways(asked));
        }
        check.noState("gap", () -> mill.gap(PointMill.NONE));
        check.noState("greatestGap", () -> mill.greatestGap());
        check.equal("the first coin", 1, () -> mill.coin(60));
    }

    private static void objectsAreApart() {
        check.sentence("PointMill(): No shapes, no coins, whatever another object has");
        PointMill other = Mills.of(1, 1, 1, 1);
        other.coin(1);
        PointMill mill = new PointMill();
        check.same("a new object beside another one", State.of(new PointMill()), State.of(mill));
        check.equal("the other one's ways", 1, () -> other.ways(1000));
        check.equal("the other one's shapes", 1, () -> other.shape());
    }

    private static void shapesAreNumberedFrom0AtMost8() {
        check.sentence("Shapes are numbered from 0, at most 8");
        PointMill mill = new PointMill();
        for (int shape = 0; shape < 8; shape++) {
            int due = shape;
            check.noIndex("ahead of shape " + shape, () -> Mills.number(mill.isPlace(due)));
            check.equal("shape " + shape, due, () -> mill.shape());
            check.equal("isPlace " + shape, 0, () -> Mills.number(mill.isPlace(due)));
        }
        check.noState("a ninth shape", () -> mill.shape());
        check.noState("a ninth shape, asked again", () -> mill.shape());
        check.noIndex("there is none", () -> Mills.number(mill.isPlace(8)));
        check.equal("the first one stands", 0, () -> mill.add(0, 1, 0, 0, 0));
        check.equal("the last one stands", 0, () -> mill.add(7, 1, 0, 0, 0));
    }

    private static void aShapeIsMadeWithoutInequalities() {
        check.sentence("shape: Makes a shape without inequalities");
        PointMill mill = new PointMill();
        for (int shape = 0; shape < 8; shape++) {
            int asked = shape;
            mill.shape();
            check.noIndex("inequality of " + shape, () -> mill.inequality(asked, 0, 0));
            check.equal("move of " + shape, 0, () -> mill.move(asked, PointMill.SLIDE));
            check.equal("add to " + shape, 0, () -> mill.add(asked, 1, 1, 1, 1));
        }
    }

    private static void inequalitiesAreNumberedFrom0AtMost10() {
        check.sentence("Inequalities are numbered from 0, at most 10");
        PointMill mill = Mills.of();
        for (int i = 0; i < 10; i++) {
            int due = i;
            check.noIndex("ahead of inequality " + i, () -> mill.inequality(0, due, 0));
            check.equal("inequality " + i, due, () -> mill.add(0, due - 9, 1, due, -due));
        }
        check.noState("an eleventh one", () -> mill.add(0, 1, 1, 1, 1));
        check.noState("an eleventh one, asked again", () -> mill.add(0, 1, 1, 1, 1));
        check.noIndex("there is none", () -> mill.inequality(0, 10, 0));
        for (int i = 0; i < 10; i++) {
            check.inequality("inequality " + i, mill, i, i - 9, 1, i, -i);
        }
    }

    private static void eachShapeHasItsOwn10() {
        check.sentence("A shape is a row of inequalities, at most 10");
        PointMill mill = new PointMill();
        for (int shape = 0; shape < 8; shape++) {
            mill.shape();
        }
        for (int i = 0; i < 10; i++) {
            for (int shape = 7; shape >= 0; shape--) {
                int asked = shape;
                int due = i;
                check.equal("shape " + shape, due, () -> mill.add(asked, 1, asked, due, -due));
            }
        }
        for (int shape = 0; shape < 8; shape++) {
            int asked = shape;
            check.noState("shape " + shape + " is full", () -> mill.add(asked, 1, 1, 1, 1));
            for (int i = 0; i < 10; i++) {
                int number = i;
                check.equal("b of " + i + " of " + shape, shape, () -> mill.inequality(asked, number, 1));
                check.equal("c of " + i + " of " + shape, i, () -> mill.inequality(asked, number, 2));
                check.equal("e of " + i + " of " + shape, -i, () -> mill.inequality(asked, number, 3));
            }
        }
    }

    private static void addTakesEachArgumentToItsEnds() {
        check.sentence("add: a, b, e: -9 to 9; c: -99 to 99");
        int[][] rows = {
            {9, 1, 1, 1}, {-9, 1, 1, 1}, {1, 9, 1, 1}, {1, -9, 1, 1}, {1, 1, 99, 1}, {1, 1, -99, 1}, {1, 1, 1, 9},
            {1, 1, 1, -9}, {9, -9, 99, -9}, {-9, 9, -99, 9}
        };
        PointMill mill = Mills.of();
        for (int i = 0; i < rows.length; i++) {
            int[] row = rows[i];
            check.equal("add " + i, i, () -> mill.add(0, row[0], row[1], row[2], row[3]));
            check.inequality("added " + i, mill, i, row);
        }
    }

    private static void addTakesOneOfBothBeing0() {
        check.sentence("a and b not both 0");
        PointMill mill = Mills.of();
        check.equal("a of 0", 0, () -> mill.add(0, 0, 1, 0, 0));
        check.equal("b of 0", 1, () -> mill.add(0, 1, 0, 0, 0));
        check.equal("a of 0, b below", 2, () -> mill.add(0, 0, -1, 0, 0));
        check.equal("b of 0, a below", 3, () -> mill.add(0, -1, 0, 0, 0));
        check.equal("their sum is 0", 4, () -> mill.add(0, 1, -1, 0, 0));
        check.noArgument("both", () -> mill.add(0, 0, 0, 5, 5));
    }

    private static void cutTakesSomeMoreAndByToTheirEnds() {
        check.sentence("cut: some: 0 to 9; more: 0 to 9; by: 1 to 20");
        PointMill mill = Mills.of(1, 0, 5, 0, 0, 1, 7, 0);
        isCut(mill, 2, cut(0, 0, 1, 1, 1), 0, 1, 7, 0);
        isCut(mill, 3, cut(0, 1, 1, 0, 1), 1, 0, 5, 0);
        isCut(mill, 4, cut(0, 9, 1, 0, 1), 9, 0, 45, 0);
        isCut(mill, 5, cut(0, 0, 1, 9, 1), 0, 9, 63, 0);
        isCut(mill, 6, cut(4, 9, 4, 9, 18), 9, 0, 45, 0);
        isCut(mill, 7, cut(4, 8, 5, 4, 12), 6, 3, 51, 0);
        PointMill by = Mills.of(2, 0, 5, 0, 0, 4, 9, 0);
        isCut(by, 2, cut(0, 9, 0, 1, 20), 1, 0, 2, 0);
        isCut(by, 3, cut(0, 0, 1, 5, 20), 0, 1, 2, 0);
    }

    private static void cutTakesTheFirstAndTheLastInequality() {
        check.sentence("cut: one, other: an inequality");
        PointMill mill = Mills.of(1, 2, 3, 0, 4, 5, 6, 0, 7, 8, 9, 0);
        isCut(mill, 3, cut(0, 1, 2, 2, 1), 15, 18, 21, 0);
        isCut(mill, 4, cut(3, 1, 0, 2, 1), 17, 22, 27, 0);
        isCut(mill, 5, cut(4, 2, 4, 0, 1), 34, 44, 54, 0);
        isCut(mill, 6, cut(1, 1, 5, 1, 1), 38, 49, 60, 0);
        check.noIndex("one that would be the new one", () -> mill.cut(0, 7, 1, 0, 1, 1));
        check.noIndex("another that would be the new one", () -> mill.cut(0, 0, 1, 7, 1, 1));
    }

    private static void cutTakesTheSameTwice() {
        check.sentence("A cut is made of two inequalities, perhaps the same twice");
        PointMill mill = Mills.of(2, -4, 7, 0);
        isCut(mill, 1, cut(0, 1, 0, 1, 1), 4, -8, 14, 0);
        isCut(mill, 2, cut(0, 1, 0, 2, 6), 1, -2, 3, 0);
        isCut(mill, 3, cut(0, 0, 0, 1, 2), 1, -2, 3, 0);
        isCut(mill, 4, cut(0, 1, 0, 0, 2), 1, -2, 3, 0);
        check.noState("the same, 0 times both", () -> mill.cut(0, 0, 0, 0, 0, 1));
    }

    private static void cutRoundsDownAlsoBelow0() {
        check.sentence("that of c is rounded down, also below 0");
        int[][] rows = {
            {-20, -1}, {-21, -2}, {-19, -1}, {-1, -1}, {0, 0}, {1, 0}, {19, 0}, {20, 1}, {21, 1}, {39, 1}, {40, 2},
            {-39, -2}, {-40, -2}, {-41, -3}, {99, 4}, {-99, -5}
        };
        for (int[] row : rows) {
            PointMill mill = Mills.of(4, 0, row[0], 0, 2, 0, 0, 0);
            isCut(mill, 2, cut(0, 1, 1, 8, 20), 1, 0, row[1], 0);
        }
        isCut(Mills.of(-2, 0, -1, 0), 1, cut(0, 1, 0, 0, 2), -1, 0, -1, 0);
        isCut(Mills.of(2, 0, -8, 0), 1, cut(0, 1, 0, 0, 2), 1, 0, -4, 0);
        isCut(Mills.of(0, 3, -2, 0), 1, cut(0, 0, 0, 1, 3), 0, 1, -1, 0);
        isCut(Mills.of(1, 0, -5, 0), 1, cut(0, 1, 0, 0, 1), 1, 0, -5, 0);
    }

    private static void cutReachesTheEndsOfAAndB() {
        check.sentence("Each of a and b is -60 to 60");
        PointMill mill = Mills.of(6, -6, 0, 0, -6, 6, 0, 0, 1, 0, 0, 0, 0, 1, 0, 0);
        isCut(mill, 4, cut(0, 9, 0, 1, 1), 60, -60, 0, 0);
        isCut(mill, 5, cut(1, 1, 1, 9, 1), -60, 60, 0, 0);
        check.noState("a of 61", () -> mill.cut(0, 4, 1, 2, 1, 1));
        check.noState("b of 61", () -> mill.cut(0, 5, 1, 3, 1, 1));
        isCut(mill, 6, cut(4, 2, 4, 0, 2), 60, -60, 0, 0);
        isCut(mill, 7, cut(4, 9, 4, 9, 18), 60, -60, 0, 0);
        check.noState("a of 122 by 2", () -> mill.cut(0, 4, 2, 2, 2, 2));
        check.noState("a of 540 by 5", () -> mill.cut(0, 4, 9, 3, 0, 5));
        isCut(mill, 8, cut(4, 9, 4, 0, 9), 60, -60, 0, 0);
        isCut(mill, 9, cut(5, 9, 5, 9, 18), -60, 60, 0, 0);
        PointMill low = Mills.of(6, -6, 0, 0, -6, 6, 0, 0, -1, 0, 0, 0, 0, -1, 0, 0);
        low.cut(0, 0, 9, 0, 1, 1);
        low.cut(0, 1, 9, 1, 1, 1);
        check.noState("b of -61", () -> low.cut(0, 4, 1, 3, 1, 1));
        check.noState("a of -61", () -> low.cut(0, 5, 1, 2, 1, 1));
        isCut(low, 6, cut(4, 1, 2, 9, 1), 51, -60, 0, 0);
        isCut(low, 7, cut(5, 1, 3, 9, 1), -60, 51, 0, 0);
    }

    private static void cutReachesTheEndsOfC() {
        check.sentence("c is -999 to 999");
        PointMill mill = Mills.of(1, 0, 99, 0, 0, 1, 12, 0, 0, 2, 1, 0, 0, 2, 2, 0, 1, 0, 1, 0);
        isCut(mill, 5, cut(0, 9, 1, 9, 1), 9, 9, 999, 0);
        check.noState("c of 1000", () -> mill.cut(0, 5, 1, 4, 1, 1));
        isCut(mill, 6, cut(5, 2, 2, 1, 2), 9, 10, 999, 0);
        check.noState("c of 2000 by 2", () -> mill.cut(0, 5, 2, 3, 1, 2));
        isCut(mill, 7, cut(5, 1, 4, 0, 1), 9, 9, 999, 0);
        PointMill low = Mills.of(1, 0, -99, 0, 0, 1, -12, 0, 0, 2, -1, 0, 0, 2, 1, 0, 1, 0, -1, 0);
        isCut(low, 5, cut(0, 9, 1, 9, 1), 9, 9, -999, 0);
        check.noState("c of -1000", () -> low.cut(0, 5, 1, 4, 1, 1));
        check.noState("c of -1999 by 2", () -> low.cut(0, 5, 2, 2, 1, 2));
        isCut(low, 6, cut(5, 2, 3, 1, 2), 9, 10, -999, 0);
        isCut(low, 7, cut(5, 1, 4, 0, 1), 9, 9, -999, 0);
    }

    private static void cutMakesOneOfBothBeing0() {
        check.sentence("cut: both would be 0");
        PointMill mill = Mills.of(3, 2, 5, 0, -3, 2, 1, 0, 3, -2, 1, 0, -3, -2, 1, 0);
        isCut(mill, 4, cut(0, 1, 1, 1, 4), 0, 1, 1, 0);
        isCut(mill, 5, cut(0, 1, 2, 1, 6), 1, 0, 1, 0);
        isCut(mill, 6, cut(1, 1, 3, 1, 6), -1, 0, 0, 0);
        isCut(mill, 7, cut(2, 1, 3, 1, 2), 0, -2, 1, 0);
        check.noState("both, 1 and 1", () -> mill.cut(0, 0, 1, 3, 1, 1));
        check.noState("both, 9 and 9", () -> mill.cut(0, 1, 9, 2, 9, 3));
        check.noState("both, 0 and 0", () -> mill.cut(0, 0, 0, 1, 0, 1));
    }

    private static void cutMakesATenthOne() {
        check.sentence("cut: IllegalStateException if there are 10");
        PointMill mill = Mills.of(1, 2, 3, 0);
        for (int i = 1; i < 10; i++) {
            isCut(mill, i, cut(0, i, i - 1, 0, 1), i, 2 * i, 3 * i, 0);
        }
        check.noState("an eleventh one", () -> mill.cut(0, 0, 1, 0, 0, 1));
        check.noState("an eleventh one, added", () -> mill.add(0, 1, 1, 1, 1));
        check.noIndex("there is none", () -> mill.inequality(0, 10, 0));
        check.inequality("the first one stands", mill, 0, 1, 2, 3, 0);
        check.inequality("the last one stands", mill, 9, 9, 18, 27, 0);
    }

    private static void cutHasNoLetter() {
        check.sentence("cut: IllegalStateException if one has a letter, also one that is taken 0 times");
        PointMill mill = Mills.of(1, 0, 5, 1, 0, 1, 5, -1, 1, 1, 5, 0);
        for (int letter = 0; letter <= 1; letter++) {
            int one = letter;
            for (int times = 0; times <= 1; times++) {
                int asked = times;
                check.noState("the one, " + times, () -> mill.cut(0, one, asked, 2, 1, 1));
                check.noState("the other one, " + times, () -> mill.cut(0, 2, 1, one, asked, 1));
            }
        }
        check.noState("letters that go together to 0", () -> mill.cut(0, 0, 1, 1, 1, 1));
        isCut(mill, 3, cut(2, 1, 2, 1, 2), 1, 1, 5, 0);
    }

    private static void moveTakesSwapToFlip() {
        check.sentence("move: SWAP to FLIP");
        PointMill mill = Mills.of(2, -3, 7, -1);
        check.noArgument("-1", () -> mill.move(0, -1));
        check.equal("SWAP", 1, () -> mill.move(0, 0));
        check.inequality("SWAP", mill, 0, -3, 2, 7, -1);
        check.equal("SLIDE", 1, () -> mill.move(0, 1));
        check.inequality("SLIDE", mill, 0, -3, 5, 7, -1);
        check.equal("FLIP", 1, () -> mill.move(0, 2));
        check.inequality("FLIP", mill, 0, 3, 5, 7, -1);
        check.noArgument("3", () -> mill.move(0, 3));
        check.equal("the constants", 0, () -> PointMill.SWAP);
        check.equal("the constants", 1, () -> PointMill.SLIDE);
        check.equal("the constants", 2, () -> PointMill.FLIP);
    }

    private static void moveChangesAllInequalities() {
        check.sentence("A move changes all inequalities of a shape");
        PointMill mill = new PointMill();
        mill.shape();
        mill.shape();
        for (int i = 0; i < 10; i++) {
            mill.add(0, i, i - 11 < -9 ? -9 : i - 11, i, -i);
            mill.add(1, 1, 2, 3, 4);
        }
        for (int i = 0; i < 10; i++) {
            int b = Math.max(-9, i - 11);
            check.inequality("ahead of moves, " + i, mill, i, i, b, i, -i);
        }
        mill.move(0, PointMill.SWAP);
        for (int i = 0; i < 10; i++) {
            check.inequality("swapped, " + i, mill, i, Math.max(-9, i - 11), i);
        }
        mill.move(0, PointMill.SLIDE);
        for (int i = 0; i < 10; i++) {
            check.inequality("slid, " + i, mill, i, Math.max(-9, i - 11), i - Math.max(-9, i - 11));
        }
        mill.move(0, PointMill.FLIP);
        for (int i = 0; i < 10; i++) {
            check.inequality("flipped, " + i, mill, i, -Math.max(-9, i - 11), i - Math.max(-9, i - 11), i, -i);
        }
        for (int i = 0; i < 10; i += 9) {
            int asked = i;
            check.equal("a of another shape", 1, () -> mill.inequality(1, asked, 0));
            check.equal("b of another shape", 2, () -> mill.inequality(1, asked, 1));
        }
    }

    private static void moveTellsHowMany() {
        check.sentence("move: Returns how many inequalities it has");
        PointMill mill = Mills.of();
        for (int size = 0; size <= 10; size++) {
            int due = size;
            for (int move : new int[] {0, 2, 0, 2}) {
                check.equal("move " + move, due, () -> mill.move(0, move));
            }
            check.equal("move 1", due, () -> mill.move(0, PointMill.SLIDE));
            if (size < 10) {
                mill.add(0, 0, 1, size, 0);
            }
        }
    }

    private static void slideReachesTheEndsOfB() {
        check.sentence("move: IllegalStateException if some b would be out of its range");
        for (int sign : new int[] {1, -1}) {
            PointMill mill = Mills.of(0, 6 * sign, 0, 0, -sign, 5 * sign, 0, 0, -sign, 6 * sign, 0, 0);
            isCut(mill, 3, cut(0, 9, 1, 1, 1), -sign, 59 * sign, 0, 0);
            check.equal("to " + 60 * sign, 4, () -> mill.move(0, PointMill.SLIDE));
            check.inequality("to " + 60 * sign, mill, 3, -sign, 60 * sign, 0, 0);
            check.inequality("those ahead", mill, 0, 0, 6 * sign, 0, 0);
            check.inequality("those ahead", mill, 1, -sign, 6 * sign, 0, 0);
            check.noState("to " + 61 * sign, () -> mill.move(0, PointMill.SLIDE));
            check.inequality("it is left", mill, 3, -sign, 60 * sign, 0, 0);
            check.inequality("those ahead are left", mill, 1, -sign, 6 * sign, 0, 0);
            check.inequality("those ahead are left", mill, 2, -sign, 7 * sign, 0, 0);
            mill.move(0, PointMill.FLIP);
            check.equal("the other way", 4, () -> mill.move(0, PointMill.SLIDE));
            check.inequality("the other way", mill, 3, sign, 59 * sign, 0, 0);
        }
    }

    private static void otherMovesGoWhereSlideDoesNot() {
        check.sentence("move: SWAP and FLIP leave each b in its range");
        PointMill mill = Mills.of(6, -6, 0, 0, -6, 6, 0, 0);
        mill.cut(0, 0, 9, 0, 1, 1);
        mill.cut(0, 1, 9, 1, 1, 1);
        check.noState("SLIDE", () -> mill.move(0, PointMill.SLIDE));
        check.equal("SWAP", 4, () -> mill.move(0, PointMill.SWAP));
        check.inequality("SWAP", mill, 2, -60, 60, 0, 0);
        check.noState("SLIDE", () -> mill.move(0, PointMill.SLIDE));
        check.equal("FLIP", 4, () -> mill.move(0, PointMill.FLIP));
        check.inequality("FLIP", mill, 2, 60, 60, 0, 0);
        check.inequality("FLIP", mill, 3, -60, -60, 0, 0);
        check.equal("SLIDE to 0", 4, () -> mill.move(0, PointMill.SLIDE));
        check.inequality("SLIDE to 0", mill, 2, 60, 0, 0, 0);
        check.equal("SLIDE to -60", 4, () -> mill.move(0, PointMill.SLIDE));
        check.inequality("SLIDE to -60", mill, 2, 60, -60, 0, 0);
        check.noState("SLIDE to -120", () -> mill.move(0, PointMill.SLIDE));
    }

    private static void inequalityTakesWhatToItsEnds() {
        check.sentence("inequality: what: 0 to 3: a, b, c, e");
        PointMill mill = Mills.of(1, -2, 3, -4);
        check.noArgument("-1", () -> mill.inequality(0, 0, -1));
        check.equal("a", 1, () -> mill.inequality(0, 0, 0));
        check.equal("b", -2, () -> mill.inequality(0, 0, 1));
        check.equal("c", 3, () -> mill.inequality(0, 0, 2));
        check.equal("e", -4, () -> mill.inequality(0, 0, 3));
        check.noArgument("4", () -> mill.inequality(0, 0, 4));
    }

    private static void isPlace(String text, boolean due, int... parts) {
        PointMill mill = Mills.of(parts);
        check.equal(text, Mills.number(due), () -> Mills.number(mill.isPlace(0)));
        check.equal(text + ", asked again", Mills.number(due), () -> Mills.number(mill.isPlace(0)));
    }

    private static void placeWithoutInequalitiesIsNone() {
        check.sentence("A shape is a place (without inequalities it is none)");
        PointMill mill = Mills.of();
        check.equal("without inequalities", 0, () -> Mills.number(mill.isPlace(0)));
        Mills.add(mill, 0, -1, 0, 0, 0);
        check.equal("with one", 0, () -> Mills.number(mill.isPlace(0)));
        Mills.add(mill, 0, 0, -1, 0, 0);
        check.equal("with two", 0, () -> Mills.number(mill.isPlace(0)));
        Mills.add(mill, 0, 1, 1, 0, 0);
        check.equal("with three", 1, () -> Mills.number(mill.isPlace(0)));
        mill.shape();
        check.equal("another shape", 0, () -> Mills.number(mill.isPlace(1)));
    }

    private static void placeLeavesNoStepAtAll() {
        check.sentence("no step, but that of 0 and 0, for which it is 0 or less in all of its inequalities");
        isPlace("half a plane", false, 1, 0, 0, 0);
        isPlace("half a plane, aslant", false, -3, 7, 0, 0);
        isPlace("a strip: 0 in both", false, 2, 3, 0, 0, -2, -3, 0, 0);
        isPlace("half a strip to the right", false, 0, 1, 0, 0, 0, -1, 0, 0, -1, 0, 0, 0);
        isPlace("half a strip to the left", false, 0, 1, 0, 0, 0, -1, 0, 0, 1, 0, 0, 0);
        isPlace("half a strip upward", false, 1, 0, 0, 0, -1, 0, 0, 0, 0, -1, 0, 0);
        isPlace("half a strip downward", false, 1, 0, 0, 0, -1, 0, 0, 0, 0, 1, 0, 0);
        isPlace("a closed strip", true, 1, 0, 0, 0, -1, 0, 0, 0, 0, 1, 0, 0, 0, -1, 0, 0);
        isPlace("a strip, closed aslant", true, 1, 0, 0, 0, -1, 0, 0, 0, 5, 1, 0, 0, -7, -1, 0, 0);
        isPlace("a quarter", false, 1, 0, 0, 0, 0, 1, 0, 0);
        isPlace("a quarter, the rest idle", false, 1, 0, 0, 0, 0, 1, 0, 0, 1, 1, 0, 0, 9, 1, 0, 0, 1, 9, 0, 0);
        isPlace("the same one three times", false, 1, 2, 0, 0, 1, 2, 0, 0, 1, 2, 0, 0);
        isPlace("three, all of one side", false, 1, 0, 0, 0, 1, 1, 0, 0, 1, -1, 0, 0);
    }

    private static void placeAsksForStepsAlone() {
        check.sentence("A shape is a place, whatever c and e are");
        isPlace("without points", true, -1, 0, -99, 0, 0, -1, -99, 0, 1, 1, -99, 0);
        isPlace("without points by its letter", true, -1, 0, 0, -9, 0, -1, 0, -9, 1, 1, 0, -9);
        isPlace("wide", true, -1, 0, 99, 9, 0, -1, 99, 9, 1, 1, 99, 9);
        isPlace("a strip without points", false, 1, 0, -99, -9, -1, 0, -99, -9);
        isPlace("half a strip without points", false, 1, 0, -99, 0, -1, 0, -99, 0, 0, 1, -99, 0);
    }

    private static void placeBySlightAngles() {
        check.sentence("no step, but that of 0 and 0: also none of a slight angle");
        isPlace("a thin wedge", false, 9, 8, 0, 0, -8, -7, 0, 0);
        isPlace("closed", true, 9, 8, 0, 0, -8, -7, 0, 0, -1, -1, 0, 0);
        isPlace("closed the wrong way", false, 9, 8, 0, 0, -8, -7, 0, 0, 1, 1, 0, 0);
        isPlace("one step is left, along an edge", false, 9, 8, 0, 0, -8, -9, 0, 0, -9, -8, 0, 0);
        isPlace("one step is left, along the other edge", false, 9, 8, 0, 0, -9, -8, 0, 0, 8, 9, 0, 0);
        isPlace("no step is left", true, 9, 8, 0, 0, -8, -9, 0, 0, -9, -8, 0, 0, 8, 9, 0, 0);
        isPlace("almost level", true, 9, 1, 0, 0, -9, 1, 0, 0, 0, -1, 0, 0);
        isPlace("level", false, 9, 1, 0, 0, -9, -1, 0, 0, 0, -1, 0, 0);
        PointMill mill = Mills.of(9, 8, 0, 0, -8, -7, 0, 0);
        isCut(mill, 2, cut(0, 3, 1, 4, 1), -5, -4, 0, 0);
        check.equal("a cut closes no place", 0, () -> Mills.number(mill.isPlace(0)));
        isCut(mill, 3, cut(0, 4, 1, 4, 4), 1, 1, 0, 0);
        check.equal("nor another one", 0, () -> Mills.number(mill.isPlace(0)));
    }

    private static void placeOfAFullShape() {
        check.sentence("A shape is a place by all of its inequalities, at most 10");
        int[] parts = new int[40];
        for (int i = 0; i < 9; i++) {
            parts[4 * i] = 1;
            parts[4 * i + 1] = i - 4;
        }
        parts[36] = 1;
        isPlace("ten, none of them closes", false, parts);
        parts[36] = -1;
        isPlace("ten, the last one closes", true, parts);
        parts[0] = -1;
        parts[36] = 1;
        parts[37] = 3;
        isPlace("ten, the first one goes along the last of the others", false, parts);
        parts[1] = 0;
        isPlace("ten, the first one closes", true, parts);
    }

    private static void placeIsKeptByMovesAndCuts() {
        check.sentence("A shape is a place, also when it has moved as far as it goes");
        PointMill place = Mills.of(1, 0, 1, 0, -1, 0, 1, 0, 0, 1, 1, 0, 0, -1, 1, 0);
        PointMill strip = Mills.of(1, 0, 1, 0, -1, 0, 1, 0, 0, 1, 1, 0);
        int slides = 0;
        for (int round = 0; round < 2; round++) {
            for (int i = 0; i < 7; i++) {
                place.move(0, PointMill.SLIDE);
                strip.move(0, PointMill.SLIDE);
                slides++;
                check.equal("place, " + slides, 1, () -> Mills.number(place.isPlace(0)));
                check.equal("no place, " + slides, 0, () -> Mills.number(strip.isPlace(0)));
            }
            place.move(0, PointMill.SWAP);
            strip.move(0, PointMill.SWAP);
        }
        check.inequality("far off", place, 0, 50, -7, 1, 0);
    }
}
