/** Promises 15 to 18: coin, ways, gap, greatestGap. */
final class CoinsTest {
    private static final Check check = new Check();

    public static void main(String[] args) {
        promise15Coin();
        promise16Ways();
        promise17Gap();
        promise18GreatestGap();
        check.end();
    }

    private static void promise15Coin() {
        check.sentence("coin: Adds a coin, or takes it away. Returns how many there are then");
        PointMill mill = new PointMill();
        int[] values = {7, 33, 34, 59};
        for (int i = 0; i < values.length; i++) {
            int value = values[i];
            check.equal("coin " + value, i + 1, () -> mill.coin(value));
        }
        check.equal("33 is taken away", 3, () -> mill.coin(33));
        check.equal("12 comes", 4, () -> mill.coin(12));
        check.equal("33 comes again", 5, () -> mill.coin(33));
        check.equal("7 is taken away", 4, () -> mill.coin(7));
        check.equal("33 and 12 pay 45", 1, () -> mill.ways(45));
        check.equal("nothing pays 14", 0, () -> mill.ways(14));
    }

    private static void promise16Ways() {
        check.sentence("ways: Returns in how many ways a sum can be paid");
        PointMill some = Mills.withCoins(15, 6, 10);
        check.equal("60", 6, () -> some.ways(60));
        check.equal("900", 496, () -> some.ways(900));
        check.equal("29", 0, () -> some.ways(29));
        check.equal("1 after others", 0, () -> some.ways(1));
        check.equal("7 after others", 0, () -> some.ways(7));
        check.equal("60 again", 6, () -> some.ways(60));
        check.equal("30", 3, () -> some.ways(30));
        some.coin(15);
        check.equal("a coin less", 3, () -> some.ways(60));
        some.coin(1);
        check.equal("another one more", 40, () -> some.ways(60));
    }

    private static void promise17Gap() {
        check.sentence("gap: Returns a gap");
        PointMill mill = Mills.withCoins(4, 7);
        int[] gaps = {1, 2, 3, 5, 6, 9, 10, 13, 17};
        check.equal("how many", gaps.length, () -> mill.gap(PointMill.NONE));
        for (int i = 0; i < gaps.length; i++) {
            int place = i;
            check.equal("gap " + i, gaps[i], () -> mill.gap(place));
        }
        mill.coin(9);
        check.equal("how many with a third coin", 6, () -> mill.gap(PointMill.NONE));
        check.equal("the last one with a third coin", 10, () -> mill.gap(5));
    }

    private static void promise18GreatestGap() {
        check.sentence("greatestGap: Returns the greatest gap");
        check.equal("6, 10, 15", 29, () -> Mills.withCoins(15, 6, 10).greatestGap());
        check.equal("60, 59, 7", 173, () -> Mills.withCoins(60, 59, 7).greatestGap());
        check.equal("4 and 7", 17, () -> Mills.withCoins(4, 7).greatestGap());
        check.equal("4, 7 and 9", 10, () -> Mills.withCoins(4, 7, 9).greatestGap());
        check.equal("6, 9 and 20", 43, () -> Mills.withCoins(6, 9, 20).greatestGap());
    }
}
