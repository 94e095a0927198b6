/** Promise 19: tables. */
final class TablesTest {
    private static final Check check = new Check();

    public static void main(String[] args) {
        promise19Tables();
        promise19AllSmall();
        check.end();
    }

    private static void promise19Tables() {
        check.sentence("tables: Counts tables. Returns how many");
        check.equal("0", 1, () -> Mills.any().tables(0, 0, 0, 0));
        check.equal("5, 5, 3, 3", 14, () -> Mills.any().tables(5, 5, 3, 3));
        check.equal("2, 3, 1, 1", 4, () -> Mills.any().tables(2, 3, 1, 1));
        check.equal("a row of 0", 1, () -> Mills.any().tables(5, 0, 2, 2));
        check.equal("columns above rows", 0, () -> Mills.any().tables(3, 3, 4, 3));
        check.equal("columns just above", 0, () -> Mills.any().tables(1, 1, 2, 1));
        check.equal("a third column of 0", 61, () -> Mills.any().tables(60, 60, 60, 60));
        check.equal("40 each", 1261, () -> Mills.any().tables(60, 60, 40, 40));
        check.equal("rows of 0", 0, () -> Mills.any().tables(0, 0, 60, 60));
        check.equal("columns of 0", 1, () -> Mills.any().tables(60, 60, 0, 0));
    }

    private static int slowly(int one, int two, int first, int next) {
        int found = 0;
        for (int a = 0; a <= one; a++) {
            for (int b = 0; a + b <= one; b++) {
                int d = first - a;
                int e = next - b;
                if (d >= 0 && e >= 0 && two - d - e >= 0) {
                    found++;
                }
            }
        }
        return found;
    }

    private static void promise19AllSmall() {
        check.sentence("tables: Counts tables. Returns how many: compared with a slow count");
        int[] sums = {0, 1, 2, 3, 5, 8, 13, 31, 59, 60};
        for (int one : sums) {
            for (int two : sums) {
                for (int first : sums) {
                    for (int next : sums) {
                        check.equal("tables " + one + " " + two + " " + first + " " + next,
                                slowly(one, two, first, next), () -> Mills.any().tables(one, two, first, next));
                    }
                }
            }
        }
    }
}
