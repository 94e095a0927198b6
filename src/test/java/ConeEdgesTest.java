/**
 * The last answers that are allowed, of promises 12 to 14 and the terms that they use: a method for each sentence that
 * names a boundary. What lies beyond is in RefusalsTest too.
 */
final class ConeEdgesTest {
    private static final Check check = new Check();

    public static void main(String[] args) {
        vectorsReachTheirEnds();
        vectorsAreNoMultiples();
        vectorsAreDivided();
        theIndexHasNoSign();
        theIndexReachesItsEnds();
        generatorsReachTheEndsOfTheFour();
        aConeHasTwoGeneratorsOrMore();
        generatorsAreInOrder();
        generatorsAreNoSums();
        generatorsAreOfDividedVectors();
        placesReachTheirEnds();
        noneAsksHowMany();
        generatorsOfThinAndWideCones();
        twoThatFollowMakeTheIndex1();
        conesAreApart();
        check.end();
    }

    private static void vectorsReachTheirEnds() {
        check.sentence("index: x, y, v, w: -20 to 20");
        int[][] cones = {
            {20, 1, 1, 0, 1}, {-20, 1, 1, 0, 1}, {1, 20, 1, 0, 20}, {1, -20, 1, 0, 20},
            {1, 0, 20, 1, 1}, {1, 0, -20, 1, 1}, {1, 0, 1, 20, 20}, {1, 0, 1, -20, 20},
            {20, 20, -20, 20, 2}, {-20, -20, 20, -20, 2}, {20, -20, 20, 20, 2}
        };
        for (int[] c : cones) {
            check.equal(java.util.Arrays.toString(c), c[4], () -> Mills.any().index(c[0], c[1], c[2], c[3]));
        }
        for (int far : Mills.beyond(-20, 20)) {
            check.noArgument("x " + far, () -> Mills.any().index(far, 1, 1, 0));
            check.noArgument("y " + far, () -> Mills.any().index(1, far, 1, 0));
            check.noArgument("v " + far, () -> Mills.any().index(1, 0, far, 1));
            check.noArgument("w " + far, () -> Mills.any().index(1, 0, 1, far));
        }
    }

    private static void noCone(int... c) {
        String text = java.util.Arrays.toString(c);
        check.noArgument(text + ", index", () -> Mills.any().index(c[0], c[1], c[2], c[3]));
        for (int place : new int[] {PointMill.NONE, 0, 1}) {
            check.noArgument(text + ", generator " + place, () -> Cones.ask(false, c, place, true));
            check.noArgument(text + ", generatorAnew " + place, () -> Cones.ask(true, c, place, false));
        }
        check.noIndex(text + ", generator below NONE", () -> Cones.ask(false, c, -2, true));
        check.noIndex(text + ", generatorAnew below NONE", () -> Cones.ask(true, c, -2, true));
    }

    private static void vectorsAreNoMultiples() {
        check.sentence("two vectors that are not multiples of each other, 0 times it too");
        noCone(0, 0, 0, 0);
        noCone(0, 0, 1, 0);
        noCone(3, -4, 0, 0);
        noCone(1, 2, 1, 2);
        noCone(1, 2, 2, 4);
        noCone(2, 4, 1, 2);
        noCone(1, 2, -1, -2);
        noCone(-2, 4, 3, -6);
        noCone(4, 6, 6, 9);
        noCone(0, 5, 0, -7);
        noCone(-20, 0, 20, 0);
        noCone(20, -20, -20, 20);
        check.equal("almost a multiple", 1, () -> Mills.any().index(19, 20, 18, 19));
        check.equal("almost the other way", 1, () -> Mills.any().index(19, 20, -18, -19));
        check.equal("a part of 0 each", 1, () -> Mills.any().index(0, 5, -7, 0));
        check.equal("alike but for a sign", 12, () -> Mills.any().index(2, 3, -2, 3));
    }

    private static void vectorsAreDivided() {
        check.sentence("each is divided by the greatest number that divides both its parts");
        check.equal("20 and 20 by 20", 1, () -> Mills.any().index(20, 20, 1, 0));
        check.equal("20 and 0 by 20", 7, () -> Mills.any().index(20, 0, 3, 7));
        check.equal("0 and -20 by 20", 3, () -> Mills.any().index(0, -20, 3, 7));
        check.equal("12 and 18 by 6", 1, () -> Mills.any().index(12, 18, 1, 1));
        check.equal("-12 and 18 by 6", 5, () -> Mills.any().index(-12, 18, 1, 1));
        check.equal("the other one, 15 and -20 by 5", 7, () -> Mills.any().index(1, 1, 15, -20));
        check.equal("both", 5, () -> Mills.any().index(-4, -8, 6, 2));
        check.equal("both by 20", 1, () -> Mills.any().index(-20, 0, 0, 20));
        check.equal("none of them", 1, () -> Mills.any().index(3, 2, 4, 3));
    }

    private static void theIndexHasNoSign() {
        check.sentence("Its index is without its sign");
        check.equal("one way", 7, () -> Mills.any().index(1, 0, 3, 7));
        check.equal("the other way", 7, () -> Mills.any().index(3, 7, 1, 0));
        check.equal("both turned round", 7, () -> Mills.any().index(-1, 0, -3, -7));
        check.equal("one turned round", 7, () -> Mills.any().index(1, 0, -3, -7));
        check.equal("the other one turned round", 7, () -> Mills.any().index(-1, 0, 3, 7));
    }

    private static void theIndexReachesItsEnds() {
        check.sentence("Its index: the first part times the second part of the other, less the other way");
        check.equal("the least one", 1, () -> Mills.any().index(1, 0, 0, 1));
        check.equal("the greatest one", 761, () -> Mills.any().index(20, 19, -19, 20));
        check.equal("the greatest one, the other way", 761, () -> Mills.any().index(-19, 20, 20, 19));
        check.equal("the greatest one below 0", 761, () -> Mills.any().index(-20, -19, 19, -20));
        check.equal("of sides that are alike", 760, () -> Mills.any().index(19, 20, -19, 20));
    }

    private static void generatorsReachTheEndsOfTheFour() {
        check.sentence("generator, generatorAnew: x, y, v, w: -20 to 20");
        check.generators(Cones.of(20, 1, 1, 0), 20, 1, 1, 0);
        check.generators(Cones.of(-20, 1, 1, 0), -20, 1, 1, 0);
        check.generators(Cones.of(1, 0, 20, 1), 1, 0, 20, 1);
        check.generators(Cones.of(1, 0, -20, 1), 1, 0, -20, 1);
        check.generators(Cones.of(0, 1, 1, 20), 0, 1, 1, 20);
        check.generators(Cones.of(0, 1, 1, -20), 0, 1, 1, -20);
        check.generators(Cones.of(1, 20, 0, -1), 1, 20, 0, -1);
        check.generators(Cones.of(1, -20, 0, 1), 1, -20, 0, 1);
        for (boolean anew : new boolean[] {false, true}) {
            for (int far : Mills.beyond(-20, 20)) {
                for (int place : new int[] {PointMill.NONE, 0, 1000}) {
                    check.noArgument("x " + far, () -> Cones.ask(anew, Cones.of(far, 1, 1, 0), place, true));
                    check.noArgument("y " + far, () -> Cones.ask(anew, Cones.of(1, far, 1, 0), place, true));
                    check.noArgument("v " + far, () -> Cones.ask(anew, Cones.of(1, 0, far, 1), place, true));
                    check.noArgument("w " + far, () -> Cones.ask(anew, Cones.of(1, 0, 1, far), place, true));
                }
            }
        }
    }

    private static void aConeHasTwoGeneratorsOrMore() {
        check.sentence("generators are sums of both with numbers of 0 or more: the vectors themselves too");
        check.generators(Cones.of(1, 0, 0, 1), 1, 0, 0, 1);
        check.generators(Cones.of(19, 20, 18, 19), 19, 20, 18, 19);
        check.generators(Cones.of(19, 20, -18, -19), 19, 20, -18, -19);
        check.generators(Cones.of(1, 1, -1, 1), 1, 1, 0, 1, -1, 1);
        int[] due = new int[82];
        for (int i = 0; i <= 40; i++) {
            due[2 * i] = 1;
            due[2 * i + 1] = i - 20;
        }
        check.generators(Cones.of(1, -20, 1, 20), due);
    }

    private static void generatorsAreInOrder() {
        check.sentence("They are in order from the one vector to the other one, as they turn");
        check.generators(Cones.of(1, 0, 3, 7), 1, 0, 1, 1, 1, 2, 3, 7);
        check.generators(Cones.of(3, 7, 1, 0), 3, 7, 1, 2, 1, 1, 1, 0);
        check.generators(Cones.of(-1, 0, 3, 7), -1, 0, 0, 1, 1, 3, 2, 5, 3, 7);
        check.generators(Cones.of(3, 7, -1, 0), 3, 7, 2, 5, 1, 3, 0, 1, -1, 0);
        check.generators(Cones.of(-1, 0, -3, -7), -1, 0, -1, -1, -1, -2, -3, -7);
        check.generators(Cones.of(1, 0, 3, -7), 1, 0, 1, -1, 1, -2, 3, -7);
        check.generators(Cones.of(1, -1, 1, 1), 1, -1, 1, 0, 1, 1);
        check.generators(Cones.of(-1, 1, -1, -1), -1, 1, -1, 0, -1, -1);
        check.generators(Cones.of(-1, -1, -1, 1), -1, -1, -1, 0, -1, 1);
    }

    private static void generatorsAreNoSums() {
        check.sentence("and no sums of two such vectors, none of them 0 and 0");
        check.generators(Cones.of(1, 0, 1, 2), 1, 0, 1, 1, 1, 2);
        check.generators(Cones.of(1, 0, 2, 3), 1, 0, 1, 1, 2, 3);
        check.generators(Cones.of(1, 0, -1, 3), 1, 0, 0, 1, -1, 3);
        check.generators(Cones.of(2, 1, 1, 2), 2, 1, 1, 1, 1, 2);
        check.generators(Cones.of(1, 2, -2, 1), 1, 2, 0, 1, -1, 1, -2, 1);
        check.generators(Cones.of(0, 1, 4, -3), 0, 1, 1, 0, 2, -1, 3, -2, 4, -3);
    }

    private static void generatorsAreOfDividedVectors() {
        check.sentence("generators: each vector is divided by the greatest number that divides both its parts");
        check.generators(Cones.of(20, 0, 0, 20), 1, 0, 0, 1);
        check.generators(Cones.of(0, -20, -20, 0), 0, -1, -1, 0);
        check.generators(Cones.of(2, 4, 6, 2), 1, 2, 1, 1, 2, 1, 3, 1);
        check.generators(Cones.of(20, 20, -20, 20), 1, 1, 0, 1, -1, 1);
        check.generators(Cones.of(4, 0, 6, 14), 1, 0, 1, 1, 1, 2, 3, 7);
    }

    private static void placesReachTheirEnds() {
        check.sentence("place: from 0 on; IndexOutOfBoundsException if the cone has no such generator");
        for (boolean anew : new boolean[] {false, true}) {
            int[] cone = Cones.of(1, 0, 3, 7);
            check.equal("the first one", 1, () -> Cones.ask(anew, cone, 0, true));
            check.equal("the first one", 0, () -> Cones.ask(anew, cone, 0, false));
            check.equal("the last one", 3, () -> Cones.ask(anew, cone, 3, true));
            check.equal("the last one", 7, () -> Cones.ask(anew, cone, 3, false));
            for (int place : new int[] {4, 5, 6, 7, 8, 9, 1 << 16, Integer.MAX_VALUE}) {
                check.noIndex("place " + place, () -> Cones.ask(anew, cone, place, true));
            }
            for (int place : new int[] {-2, -3, -(1 << 16), Integer.MIN_VALUE}) {
                check.noIndex("place " + place, () -> Cones.ask(anew, cone, place, false));
            }
        }
    }

    private static void noneAsksHowMany() {
        check.sentence("NONE to ask how many; first counts for nothing with NONE");
        int[][] cones = {{1, 0, 0, 1, 2}, {1, 0, 3, 7, 4}, {1, -20, 1, 20, 41}, {20, 19, -19, 20, 22}};
        for (int[] cone : cones) {
            for (boolean anew : new boolean[] {false, true}) {
                String text = java.util.Arrays.toString(cone);
                check.equal(text, cone[4], () -> Cones.ask(anew, cone, PointMill.NONE, true));
                check.equal(text, cone[4], () -> Cones.ask(anew, cone, PointMill.NONE, false));
                check.equal(text, cone[4], () -> Cones.ask(anew, cone, -1, false));
            }
        }
    }

    private static void generatorsOfThinAndWideCones() {
        check.sentence("sums of both with numbers of 0 or more, perhaps broken ones: of thin and wide cones");
        check.generators(Cones.of(20, -19, -20, 20), 20, -19, -1, 1);
        check.generators(Cones.of(-3, 5, 2, -7), -3, 5, -2, 3, -1, 1, 0, -1, 1, -4, 2, -7);
        check.generators(Cones.of(20, 19, 20, 17), 20, 19, 19, 18, 18, 17, 17, 16, 16, 15, 15, 14, 14, 13, 13, 12,
                12, 11, 11, 10, 10, 9, 9, 8, 8, 7, 7, 6, 20, 17);
        check.generators(Cones.of(1, 0, -19, 2), 1, 0, -9, 1, -19, 2);
        check.generators(Cones.of(1, 0, -20, 19), 1, 0, -1, 1, -20, 19);
    }

    /** All cones with their first vectors in some places. */
    private static void twoThatFollowMakeTheIndex1() {
        check.sentence("generatorAnew: two that follow each other make a cone of the index 1");
        int[][] firsts = {{20, 19}, {-13, 7}, {0, -6}, {1, 0}, {-20, -20}};
        for (int[] first : firsts) {
            for (int v = -20; v <= 20; v++) {
                for (int w = -20; w <= 20; w++) {
                    if (first[0] * w != first[1] * v) {
                        followEachOther(Cones.of(first[0], first[1], v, w));
                    }
                }
            }
        }
    }

    private static void followEachOther(int[] cone) {
        String text = java.util.Arrays.toString(cone);
        int size = Cones.ask(true, cone, PointMill.NONE, true);
        check.equal(text + ", how many", size, () -> Cones.ask(false, cone, PointMill.NONE, true));
        int aheadX = 0;
        int aheadY = 0;
        for (int place = 0; place < size; place++) {
            int asked = place;
            int x = Cones.ask(true, cone, place, true);
            int y = Cones.ask(true, cone, place, false);
            check.equal(text + ", first of " + place, x, () -> Cones.ask(false, cone, asked, true));
            check.equal(text + ", second of " + place, y, () -> Cones.ask(false, cone, asked, false));
            int index = Math.abs(aheadX * y - aheadY * x);
            check.equal(text + ", index at " + place, place == 0 ? 0 : 1, () -> index);
            aheadX = x;
            aheadY = y;
        }
    }

    private static void conesAreApart() {
        check.sentence("Returns the index, the generators of the cone that is told, whatever was asked ahead of it");
        PointMill mill = new PointMill();
        for (int round = 0; round < 3; round++) {
            check.equal("many", 41, () -> mill.generator(1, -20, 1, 20, PointMill.NONE, true));
            check.equal("few", 2, () -> mill.generator(1, 0, 0, 1, PointMill.NONE, true));
            check.noIndex("few, place 2", () -> mill.generator(1, 0, 0, 1, 2, true));
            check.noArgument("none", () -> mill.generator(2, 2, 1, 1, 0, true));
            check.equal("many anew", 41, () -> mill.generatorAnew(1, -20, 1, 20, PointMill.NONE, true));
            check.equal("few anew", 1, () -> mill.generatorAnew(1, 0, 0, 1, 1, false));
            check.noIndex("few anew, place 2", () -> mill.generatorAnew(1, 0, 0, 1, 2, true));
            check.equal("an index", 7, () -> mill.index(1, 0, 3, 7));
            check.equal("a generator", 2, () -> mill.generator(1, 0, 3, 7, 2, false));
        }
    }
}
