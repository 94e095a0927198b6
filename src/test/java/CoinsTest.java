/** Promises 15 to 18: coin, ways, gap, greatestGap. */
final class CoinsTest {
    private static final int LOWEST = Integer.MIN_VALUE;
    private static final int HIGHEST = Integer.MAX_VALUE;
    private static final Check check = new Check();

    public static void main(String[] args) {
        promise15Coin();
        promise16Ways();
        promise17Gap();
        promise17Order();
        promise18GreatestGap();
        check.end();
    }

    private static PointMill mill(int... values) {
        PointMill mill = new PointMill();
        for (int value : values) {
            mill.coin(value);
        }
        return mill;
    }

    private static void promise15Coin() {
        PointMill mill = mill();
        int[] values = {1, 60, 7, 33, 34, 59};
        for (int i = 0; i < values.length; i++) {
            int value = values[i];
            check.equal("coin " + value, i + 1, () -> mill.coin(value));
        }
        check.noState("a seventh coin", () -> mill.coin(2));
        check.equal("taken away", 5, () -> mill.coin(60));
        check.equal("another one", 6, () -> mill.coin(2));
        check.noState("a seventh coin again", () -> mill.coin(60));
        check.equal("taken away, 1", 5, () -> mill.coin(1));
        for (int value : new int[] {0, 61, -1, LOWEST, HIGHEST}) {
            check.noArgument("coin " + value, () -> mill.coin(value));
        }
        check.equal("still 5", 6, () -> mill.coin(60));
        for (int value : new int[] {0, 61}) {
            check.noArgument("full, coin " + value, () -> mill.coin(value));
        }
        int left = 5;
        for (int value : new int[] {60, 2, 7, 33, 34, 59}) {
            int due = left--;
            check.equal("taken away, " + value, due, () -> mill.coin(value));
        }
        check.equal("none is left", 0, () -> mill.ways(60));
    }

    private static void promise16Ways() {
        PointMill none = mill();
        check.equal("no coins, 0", 1, () -> none.ways(0));
        check.equal("no coins, 1", 0, () -> none.ways(1));
        PointMill some = mill(15, 6, 10);
        check.equal("60", 6, () -> some.ways(60));
        check.equal("1000", 595, () -> some.ways(1000));
        check.equal("29", 0, () -> some.ways(29));
        check.equal("0", 1, () -> some.ways(0));
        check.equal("1 after others", 0, () -> some.ways(1));
        check.equal("7 after others", 0, () -> some.ways(7));
        check.equal("60 again", 6, () -> some.ways(60));
        check.equal("30", 3, () -> some.ways(30));
        check.equal("money", 292, () -> mill(1, 5, 10, 25, 50).ways(100));
        check.equal("one coin", 1, () -> mill(60).ways(960));
        check.equal("one coin, no", 0, () -> mill(60).ways(1000));
        check.equal("many", 12193703764L, () -> mill(1, 2, 3, 4, 5, 6).ways(1000));
        for (int sum : new int[] {-1, 1001, LOWEST, HIGHEST}) {
            check.noArgument("sum " + sum, () -> some.ways(sum));
        }
        some.coin(15);
        check.equal("a coin less", 3, () -> some.ways(60));
    }

    private static void promise17Gap() {
        PointMill some = mill(15, 6, 10);
        int[] gaps = {1, 2, 3, 4, 5, 7, 8, 9, 11, 13, 14, 17, 19, 23, 29};
        check.equal("how many", gaps.length, () -> some.gap(PointMill.NONE));
        for (int i = 0; i < gaps.length; i++) {
            int place = i;
            check.equal("gap " + i, gaps[i], () -> some.gap(place));
        }
        check.noIndex("gap 15", () -> some.gap(15));
        check.noIndex("gap far off", () -> some.gap(HIGHEST));
        PointMill far = mill(60, 59);
        check.equal("60 and 59, how many", 1711, () -> far.gap(PointMill.NONE));
        check.equal("60 and 59, last", 3421, () -> far.gap(1710));
        check.noIndex("60 and 59, too far", () -> far.gap(1711));
        PointMill all = mill(1, 60);
        check.equal("no gaps", 0, () -> all.gap(PointMill.NONE));
        check.noIndex("no gaps, 0", () -> all.gap(0));
        PointMill two = mill(2, 3);
        check.equal("one gap", 1, () -> two.gap(PointMill.NONE));
        check.equal("one gap, 0", 1, () -> two.gap(0));
        check.noIndex("one gap, 1", () -> two.gap(1));
    }

    private static void promise17Order() {
        PointMill[] endless = {mill(), mill(6, 10), mill(2), mill(60), mill(60, 45, 30)};
        for (PointMill mill : endless) {
            for (int place : new int[] {-2, LOWEST}) {
                check.noIndex("endless, " + place, () -> mill.gap(place));
            }
            for (int place : new int[] {-1, 0, 10000, HIGHEST}) {
                check.noState("endless, " + place, () -> mill.gap(place));
            }
            check.noState("endless, greatest", () -> mill.greatestGap());
        }
        PointMill some = mill(2, 3);
        check.noIndex("below NONE", () -> some.gap(-2));
        some.coin(3);
        check.noState("endless by taking away", () -> some.gap(0));
        some.coin(60);
        check.noState("endless still", () -> some.gap(0));
        some.coin(1);
        check.equal("an end again", 0, () -> some.gap(-1));
    }

    private static void promise18GreatestGap() {
        check.equal("6, 10, 15", 29, () -> mill(15, 6, 10).greatestGap());
        check.equal("60 and 59", 3421, () -> mill(60, 59).greatestGap());
        check.equal("60, 59, 7", 173, () -> mill(60, 59, 7).greatestGap());
        check.equal("2 and 3", 1, () -> mill(2, 3).greatestGap());
        check.equal("1", PointMill.NONE, () -> mill(1).greatestGap());
        check.equal("1 and others", PointMill.NONE, () -> mill(5, 60, 1).greatestGap());
        for (int one = 2; one <= 60; one++) {
            int value = one;
            int due = value * (value - 1) - 2 * value + 1;
            check.equal(one + " and the one below", due, () -> mill(value, value - 1).greatestGap());
        }
    }
}
