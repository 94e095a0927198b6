/** Promises 12 to 14: index, generator, generatorAnew. */
final class ConesTest {
    private static final int LOWEST = Integer.MIN_VALUE;
    private static final int HIGHEST = Integer.MAX_VALUE;
    private static final Check check = new Check();
    private static final PointMill mill = new PointMill();

    public static void main(String[] args) {
        promise12Index();
        promise13And14Generators();
        promise13And14Order();
        promise14FollowsAlike();
        check.end();
    }

    private static void promise12Index() {
        check.equal("axes", 1, () -> mill.index(1, 0, 0, 1));
        check.equal("axes, turned", 1, () -> mill.index(0, 1, 1, 0));
        check.equal("1 0, 3 7", 7, () -> mill.index(1, 0, 3, 7));
        check.equal("divided", 5, () -> mill.index(2, 4, 6, 2));
        check.equal("divided, along axes", 1, () -> mill.index(20, 0, 0, -20));
        check.equal("divided below 0", 5, () -> mill.index(-4, -8, 6, 2));
        check.equal("great", 761, () -> mill.index(19, 20, -20, 19));
        check.equal("narrow", 1, () -> mill.index(20, -19, -20, 20));
        int[][] multiples = {
            {1, 2, 2, 4}, {2, 4, 1, 2}, {2, 4, 3, 6}, {0, 0, 1, 1}, {1, 1, 0, 0}, {0, 0, 0, 0},
            {1, 0, -1, 0}, {0, -3, 0, 5}, {6, -4, -9, 6}, {7, 3, 7, 3}
        };
        for (int[] m : multiples) {
            check.noArgument("index of multiples", () -> mill.index(m[0], m[1], m[2], m[3]));
        }
        for (int far : new int[] {-21, 21, LOWEST, HIGHEST}) {
            check.noArgument("index, x " + far, () -> mill.index(far, 1, 1, 0));
            check.noArgument("index, y " + far, () -> mill.index(1, far, 1, 0));
            check.noArgument("index, v " + far, () -> mill.index(1, 0, far, 1));
            check.noArgument("index, w " + far, () -> mill.index(1, 0, 1, far));
        }
    }

    private static int ask(boolean anew, int[] cone, int place, boolean first) {
        return anew
                ? mill.generatorAnew(cone[0], cone[1], cone[2], cone[3], place, first)
                : mill.generator(cone[0], cone[1], cone[2], cone[3], place, first);
    }

    private static int[] cone(int... parts) {
        return parts;
    }

    private static void generators(int[] cone, int... due) {
        for (boolean anew : new boolean[] {false, true}) {
            String text = (anew ? "generatorAnew " : "generator ") + java.util.Arrays.toString(cone);
            int size = due.length / 2;
            check.equal(text + ", how many", size, () -> ask(anew, cone, PointMill.NONE, true));
            check.equal(text + ", how many", size, () -> ask(anew, cone, PointMill.NONE, false));
            for (int place = 0; place < size; place++) {
                int asked = place;
                check.equal(text + ", first " + place, due[2 * place], () -> ask(anew, cone, asked, true));
                check.equal(text + ", second " + place, due[2 * place + 1], () -> ask(anew, cone, asked, false));
            }
            for (int place : new int[] {size, size + 1, 1000000, HIGHEST}) {
                check.noIndex(text + ", place " + place, () -> ask(anew, cone, place, true));
            }
        }
    }

    private static void promise13And14Generators() {
        generators(cone(1, 0, 0, 1), 1, 0, 0, 1);
        generators(cone(0, 1, 1, 0), 0, 1, 1, 0);
        generators(cone(0, -7, -9, 0), 0, -1, -1, 0);
        generators(cone(1, 0, 3, 7), 1, 0, 1, 1, 1, 2, 3, 7);
        generators(cone(3, 7, 1, 0), 3, 7, 1, 2, 1, 1, 1, 0);
        generators(cone(2, 4, 6, 2), 1, 2, 1, 1, 2, 1, 3, 1);
        generators(cone(1, 0, -1, 2), 1, 0, 0, 1, -1, 2);
        generators(cone(1, 1, -1, 1), 1, 1, 0, 1, -1, 1);
        generators(cone(0, 2, 4, -3), 0, 1, 1, 0, 2, -1, 3, -2, 4, -3);
        generators(cone(1, 0, 1, 5), 1, 0, 1, 1, 1, 2, 1, 3, 1, 4, 1, 5);
        generators(cone(20, -19, -20, 20), 20, -19, -1, 1);
        generators(cone(-3, 5, 2, -7), -3, 5, -2, 3, -1, 1, 0, -1, 1, -4, 2, -7);
    }

    private static void promise13And14Order() {
        int[] wrong = cone(0, 0, 0, 1);
        int[] right = cone(1, 0, 0, 1);
        for (boolean anew : new boolean[] {false, true}) {
            String text = anew ? "generatorAnew, " : "generator, ";
            for (int place : new int[] {-2, -3, LOWEST}) {
                check.noIndex(text + "place " + place, () -> ask(anew, right, place, true));
                check.noIndex(text + "no cone, place " + place, () -> ask(anew, wrong, place, true));
            }
            for (int place : new int[] {-1, 0, 5, HIGHEST}) {
                check.noArgument(text + "no cone, " + place, () -> ask(anew, wrong, place, true));
                check.noArgument(text + "multiples", () -> ask(anew, cone(2, 4, -3, -6), place, true));
                for (int far : new int[] {-21, 21, LOWEST, HIGHEST}) {
                    check.noArgument(text + "x " + far, () -> ask(anew, cone(far, 1, 1, 0), place, true));
                    check.noArgument(text + "y " + far, () -> ask(anew, cone(1, far, 1, 0), place, true));
                    check.noArgument(text + "v " + far, () -> ask(anew, cone(1, 0, far, 1), place, true));
                    check.noArgument(text + "w " + far, () -> ask(anew, cone(1, 0, 1, far), place, true));
                }
            }
        }
    }

    /** All cones with their first vectors in some places: both ways tell the same. */
    private static void promise14FollowsAlike() {
        int[][] firsts = {{20, 19}, {-13, 7}, {0, -6}, {1, 0}, {-17, -20}};
        for (int[] first : firsts) {
            for (int v = -20; v <= 20; v++) {
                for (int w = -20; w <= 20; w++) {
                    if (first[0] * w != first[1] * v) {
                        tellsAlike(cone(first[0], first[1], v, w));
                    }
                }
            }
        }
    }

    private static void tellsAlike(int[] cone) {
        String text = "alike " + java.util.Arrays.toString(cone);
        int size = ask(false, cone, PointMill.NONE, true);
        check.equal(text, size, () -> ask(true, cone, PointMill.NONE, true));
        for (int place = 0; place < size; place++) {
            int asked = place;
            check.equal(text, ask(false, cone, place, true), () -> ask(true, cone, asked, true));
            check.equal(text, ask(false, cone, place, false), () -> ask(true, cone, asked, false));
        }
    }
}
