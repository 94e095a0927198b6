/**
 * The last answers that are allowed, of promise 19 and the terms that it uses: a method for each sentence that names a
 * boundary. What lies beyond is in RefusalsTest too.
 */
final class TableEdgesTest {
    private static final Check check = new Check();

    public static void main(String[] args) {
        sumsReachTheirEnds();
        numbersAreOf0OrMore();
        rowsAndColumnsOf0();
        theThirdColumnIsLeft();
        rowsHave3Numbers();
        check.end();
    }

    private static void tables(long due, int one, int two, int first, int next) {
        String text = one + ", " + two + ", " + first + ", " + next;
        check.equal(text, due, () -> Mills.any().tables(one, two, first, next));
        check.equal(text + ", rows changed", due, () -> Mills.any().tables(two, one, first, next));
        check.equal(text + ", columns changed", due, () -> Mills.any().tables(one, two, next, first));
    }

    private static void sumsReachTheirEnds() {
        check.sentence("tables: one, two, first, next: 0 to 60");
        tables(1, 0, 0, 0, 0);
        tables(61, 60, 60, 60, 60);
        tables(1, 60, 0, 0, 0);
        tables(1, 0, 60, 60, 0);
        tables(61, 60, 60, 60, 0);
        tables(1261, 60, 60, 40, 40);
        for (int far : Mills.beyond(0, 60)) {
            for (int other : new int[] {0, 30, 60}) {
                check.noArgument("one " + far, () -> Mills.any().tables(far, other, other, other));
                check.noArgument("two " + far, () -> Mills.any().tables(other, far, other, other));
                check.noArgument("first " + far, () -> Mills.any().tables(other, other, far, other));
                check.noArgument("next " + far, () -> Mills.any().tables(other, other, other, far));
            }
        }
    }

    private static void numbersAreOf0OrMore() {
        check.sentence("A table has 2 rows of 3 numbers, of 0 or more");
        tables(2, 1, 1, 1, 1);
        tables(3, 1, 2, 1, 1);
        tables(4, 2, 3, 1, 1);
        tables(1, 1, 0, 1, 0);
        tables(2, 1, 1, 1, 0);
        tables(14, 5, 5, 3, 3);
    }

    private static void rowsAndColumnsOf0() {
        check.sentence("numbers of 0 or more: a row or a column of 0");
        tables(1, 5, 0, 2, 2);
        tables(1, 60, 0, 30, 30);
        tables(1, 60, 0, 20, 20);
        tables(0, 60, 0, 31, 30);
        tables(4, 5, 5, 3, 0);
        tables(1, 5, 5, 0, 0);
        tables(0, 0, 0, 1, 0);
        tables(0, 0, 0, 60, 60);
    }

    private static void theThirdColumnIsLeft() {
        check.sentence("of it the sums of both rows, and of the first two columns, are told: the third one is left");
        tables(6, 5, 5, 5, 5);
        tables(0, 5, 5, 6, 5);
        tables(12, 5, 5, 5, 3);
        tables(0, 60, 59, 60, 60);
        tables(120, 60, 60, 60, 59);
        tables(0, 1, 0, 1, 1);
        tables(0, 59, 0, 60, 0);
    }

    private static void rowsHave3Numbers() {
        check.sentence("A table has 2 rows of 3 numbers: all small ones, by trying");
        for (int one = 0; one <= 7; one++) {
            for (int two = 0; two <= one; two++) {
                for (int first = 0; first <= 9; first++) {
                    for (int next = 0; next <= 9; next++) {
                        tables(tried(one, two, first, next), one, two, first, next);
                    }
                }
            }
        }
    }

    private static int tried(int one, int two, int first, int next) {
        int found = 0;
        for (int a = 0; a <= one; a++) {
            for (int b = 0; b <= one; b++) {
                int third = one - a - b;
                boolean isAbove = third >= 0;
                boolean isBelow = first - a >= 0 && next - b >= 0 && two - (first - a) - (next - b) >= 0;
                found += isAbove && isBelow ? 1 : 0;
            }
        }
        return found;
    }
}
