/** Promises 12 to 14: index, generator, generatorAnew. */
final class ConesTest {
    private static final Check check = new Check();

    public static void main(String[] args) {
        promise12Index();
        promise13And14Generators();
        check.end();
    }

    private static void promise12Index() {
        check.sentence("index: Returns the index of a cone");
        int[][] cones = {
            {1, 0, 0, 1, 1}, {0, 1, 1, 0, 1}, {1, 0, 3, 7, 7}, {2, 4, 6, 2, 5}, {20, 0, 0, -20, 1}, {-4, -8, 6, 2, 5},
            {20, -19, -20, 20, 1}, {-3, 5, 2, -7, 11}, {12, 9, -8, 14, 40}
        };
        for (int[] c : cones) {
            check.equal(java.util.Arrays.toString(c), c[4], () -> Mills.any().index(c[0], c[1], c[2], c[3]));
        }
    }

    private static void promise13And14Generators() {
        check.sentence("generator, generatorAnew: Returns how many generators a cone has, or a part of one");
        check.generators(Cones.of(0, 1, 1, 0), 0, 1, 1, 0);
        check.generators(Cones.of(0, -7, -9, 0), 0, -1, -1, 0);
        check.generators(Cones.of(1, 0, -1, 2), 1, 0, 0, 1, -1, 2);
        check.generators(Cones.of(0, 2, 4, -3), 0, 1, 1, 0, 2, -1, 3, -2, 4, -3);
        check.generators(Cones.of(1, 0, 1, 5), 1, 0, 1, 1, 1, 2, 1, 3, 1, 4, 1, 5);
        check.generators(Cones.of(-3, 5, 2, -7), -3, 5, -2, 3, -1, 1, 0, -1, 1, -4, 2, -7);
    }
}
