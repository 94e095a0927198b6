/**
 * The last answers that are allowed, of promises 15 to 18 and the terms that they use: a method for each sentence that
 * names a boundary. What lies beyond is in RefusalsTest too.
 */
final class CoinEdgesTest {
    private static final Check check = new Check();

    public static void main(String[] args) {
        valuesReachTheirEnds();
        coinsAreAtMost6();
        aCoinIsThereOnce();
        aCoinIsTakenAwayFrom6();
        theSumsReachTheirEnds();
        zeroCanBePaid();
        noCoinsPayNothing();
        waysAreToldApartByHowMany();
        waysMayBeMany();
        waysOfOneCoin();
        gapsReachTheirEnds();
        noneAsksHowManyGaps();
        thereMayBeNoGap();
        gapsWithoutAnEnd();
        gapsEndByAllCoinsTogether();
        gapsReachFarthest();
        theGreatestGapIsTheLast();
        theGreatestGapMayBeNone();
        greatestGapOfMany();
        zeroIsNoGap();
        check.end();
    }

    private static void valuesReachTheirEnds() {
        check.sentence("coin: value: 1 to 60");
        PointMill mill = new PointMill();
        check.noArgument("0", () -> mill.coin(0));
        check.equal("1", 1, () -> mill.coin(1));
        check.equal("60", 2, () -> mill.coin(60));
        check.noArgument("61", () -> mill.coin(61));
        check.equal("both pay 60", 2, () -> mill.ways(60));
        check.equal("1 pays 59", 1, () -> mill.ways(59));
        for (int value : Mills.beyond(1, 60)) {
            check.noArgument("coin " + value, () -> mill.coin(value));
        }
        check.equal("1 is taken away", 1, () -> mill.coin(1));
        check.equal("60 pays 60", 1, () -> mill.ways(60));
        check.equal("60 does not pay 59", 0, () -> mill.ways(59));
        check.equal("60 does not pay 28", 0, () -> mill.ways(28));
        for (int value = 1; value <= 60; value++) {
            int asked = value;
            PointMill one = Mills.withCoins(value);
            check.equal(value + " pays itself", 1, () -> one.ways(asked));
            check.equal(value + " pays twice itself", 1, () -> one.ways(2 * asked));
            check.equal(value + " is taken away", 0, () -> one.coin(asked));
            check.equal(value + " is gone", 0, () -> one.ways(asked));
        }
    }

    private static void coinsAreAtMost6() {
        check.sentence("Coins: at most 6; coin: IllegalStateException if there would be more than 6");
        PointMill mill = new PointMill();
        int[] values = {60, 1, 59, 2, 31, 32};
        for (int i = 0; i < 6; i++) {
            int asked = values[i];
            check.equal("coin number " + i, i + 1, () -> mill.coin(asked));
        }
        for (int value = 3; value <= 58; value++) {
            int asked = value;
            if (value != 31 && value != 32) {
                check.noState("a seventh coin, " + value, () -> mill.coin(asked));
            }
        }
        check.noArgument("0 ahead of too many", () -> mill.coin(0));
        check.noArgument("61 ahead of too many", () -> mill.coin(61));
        check.equal("all six pay", 3, () -> mill.ways(4));
        check.equal("5 is taken away", 5, () -> mill.coin(60));
        check.equal("another sixth one", 6, () -> mill.coin(3));
        check.noState("a seventh one still", () -> mill.coin(60));
    }

    private static void aCoinIsThereOnce() {
        check.sentence("coin: Adds a coin, or takes it away, if there is one of that value");
        PointMill mill = new PointMill();
        for (int round = 0; round < 3; round++) {
            check.equal("added", 1, () -> mill.coin(7));
            check.equal("it pays 14 in one way", 1, () -> mill.ways(14));
            check.equal("taken away", 0, () -> mill.coin(7));
            check.equal("nothing pays 14", 0, () -> mill.ways(14));
        }
        check.equal("another one", 1, () -> mill.coin(2));
        check.equal("one more", 2, () -> mill.coin(7));
        check.equal("the first one goes", 1, () -> mill.coin(2));
        check.equal("it is gone", 0, () -> mill.ways(2));
        check.equal("the second one stands", 1, () -> mill.ways(7));
    }

    private static void aCoinIsTakenAwayFrom6() {
        check.sentence("coin: takes it away, if there is one of that value, also if there are 6");
        for (int value = 10; value <= 60; value += 10) {
            int asked = value;
            PointMill mill = Mills.withCoins(10, 20, 30, 40, 50, 60);
            check.equal(value + " goes", 5, () -> mill.coin(asked));
            check.equal(value + " comes again", 6, () -> mill.coin(asked));
            check.noState("a seventh one", () -> mill.coin(asked - 1));
            int left = 6;
            for (int each = 60; each >= 10; each -= 10) {
                int due = --left;
                int gone = each;
                check.equal(each + " goes at the end", due, () -> mill.coin(gone));
            }
            check.equal("none is left", 0, () -> mill.ways(60));
        }
    }

    private static void theSumsReachTheirEnds() {
        check.sentence("ways: sum: 0 to 1000");
        PointMill mill = Mills.withCoins(1, 60);
        check.noArgument("-1", () -> mill.ways(-1));
        check.equal("0", 1, () -> mill.ways(0));
        check.equal("1", 1, () -> mill.ways(1));
        check.equal("59", 1, () -> mill.ways(59));
        check.equal("60", 2, () -> mill.ways(60));
        check.equal("959", 16, () -> mill.ways(959));
        check.equal("960", 17, () -> mill.ways(960));
        check.equal("999", 17, () -> mill.ways(999));
        check.equal("1000", 17, () -> mill.ways(1000));
        check.noArgument("1001", () -> mill.ways(1001));
        check.equal("60 again", 2, () -> mill.ways(60));
        for (int sum : Mills.beyond(0, 1000)) {
            check.noArgument("ways " + sum, () -> mill.ways(sum));
        }
    }

    private static void zeroCanBePaid() {
        check.sentence("A sum can be paid, if it is a sum of coins, each as often as one likes; 0 can");
        check.equal("without coins", 1, () -> new PointMill().ways(0));
        check.equal("by a coin of 1", 1, () -> Mills.withCoins(1).ways(0));
        check.equal("by a coin of 60", 1, () -> Mills.withCoins(60).ways(0));
        PointMill mill = Mills.withCoins(2, 3, 5, 7, 11, 13);
        check.equal("by six coins", 1, () -> mill.ways(0));
        check.equal("9", 4, () -> mill.ways(9));
        check.equal("by six coins again", 1, () -> mill.ways(0));
    }

    private static void noCoinsPayNothing() {
        check.sentence("A sum can be paid, if it is a sum of coins: there are none");
        PointMill mill = new PointMill();
        for (int sum : new int[] {1, 2, 59, 60, 61, 999, 1000}) {
            check.equal("ways " + sum, 0, () -> mill.ways(sum));
        }
        mill.coin(1);
        check.equal("with a coin", 1, () -> mill.ways(1000));
        mill.coin(1);
        for (int sum : new int[] {1, 60, 1000}) {
            check.equal("ways without it, " + sum, 0, () -> mill.ways(sum));
        }
    }

    private static void waysAreToldApartByHowMany() {
        check.sentence("Ways to pay are told apart by how many there are of each coin");
        check.equal("1 and 2 pay 3", 2, () -> Mills.withCoins(1, 2).ways(3));
        check.equal("2 and 1 pay 3", 2, () -> Mills.withCoins(2, 1).ways(3));
        check.equal("1 and 2 pay 1000", 501, () -> Mills.withCoins(1, 2).ways(1000));
        check.equal("1, 2 and 3 pay 6", 7, () -> Mills.withCoins(3, 1, 2).ways(6));
        check.equal("6, 10 and 15 pay 30", 3, () -> Mills.withCoins(6, 10, 15).ways(30));
        check.equal("6, 10 and 15 pay 29", 0, () -> Mills.withCoins(6, 10, 15).ways(29));
        check.equal("6, 10 and 15 pay 31", 1, () -> Mills.withCoins(6, 10, 15).ways(31));
        check.equal("money", 292, () -> Mills.withCoins(50, 25, 10, 5, 1).ways(100));
    }

    private static void waysMayBeMany() {
        check.sentence("ways: Returns how many: more than an int holds");
        PointMill mill = Mills.withCoins(1, 2, 3, 4, 5, 6);
        check.equal("1000", 12193703764L, () -> mill.ways(1000));
        check.equal("999", 12133483643L, () -> mill.ways(999));
        check.equal("0 after that", 1, () -> mill.ways(0));
        mill.coin(1);
        check.equal("without 1", 60220121, () -> mill.ways(1000));
    }

    private static void waysOfOneCoin() {
        check.sentence("each as often as one likes");
        PointMill mill = Mills.withCoins(60);
        for (int sum = 0; sum <= 300; sum++) {
            int asked = sum;
            check.equal("ways " + sum, sum % 60 == 0 ? 1 : 0, () -> mill.ways(asked));
        }
        check.equal("16 times", 1, () -> mill.ways(960));
        check.equal("a rest of 40", 0, () -> mill.ways(1000));
    }

    private static void gapsReachTheirEnds() {
        check.sentence("gap: 0 for the lowest one; IndexOutOfBoundsException if there is no such gap");
        PointMill mill = Mills.withCoins(10, 6, 15);
        int[] gaps = {1, 2, 3, 4, 5, 7, 8, 9, 11, 13, 14, 17, 19, 23, 29};
        for (int i = 0; i < gaps.length; i++) {
            int place = i;
            check.equal("gap " + i, gaps[i], () -> mill.gap(place));
        }
        for (int place : new int[] {15, 16, 28, 29, 30, 1 << 16, Integer.MAX_VALUE}) {
            check.noIndex("gap " + place, () -> mill.gap(place));
        }
        for (int place : new int[] {-2, -3, -(1 << 16), Integer.MIN_VALUE}) {
            check.noIndex("gap " + place, () -> mill.gap(place));
        }
        PointMill one = Mills.withCoins(2, 3);
        check.equal("the one gap", 1, () -> one.gap(0));
        check.noIndex("beyond the one gap", () -> one.gap(1));
    }

    private static void noneAsksHowManyGaps() {
        check.sentence("gap: NONE to ask how many there are");
        check.equal("6, 10, 15", 15, () -> Mills.withCoins(6, 10, 15).gap(PointMill.NONE));
        check.equal("2, 3", 1, () -> Mills.withCoins(2, 3).gap(-1));
        check.equal("1", 0, () -> Mills.withCoins(1).gap(PointMill.NONE));
        check.equal("59, 60", 1711, () -> Mills.withCoins(59, 60).gap(PointMill.NONE));
        check.equal("6, 9, 20", 22, () -> Mills.withCoins(6, 9, 20).gap(PointMill.NONE));
    }

    private static void thereMayBeNoGap() {
        check.sentence("gap: gaps having an end, there is no such gap: none at all");
        for (PointMill mill : new PointMill[] {Mills.withCoins(1), Mills.withCoins(60, 1), Mills.withCoins(1, 2, 4)}) {
            check.equal("how many", 0, () -> mill.gap(PointMill.NONE));
            check.noIndex("gap 0", () -> mill.gap(0));
            check.noIndex("gap -2", () -> mill.gap(-2));
        }
    }

    private static void isEndless(String text, PointMill mill) {
        check.noIndex(text + ", below NONE", () -> mill.gap(-2));
        check.noIndex(text + ", far below NONE", () -> mill.gap(Integer.MIN_VALUE));
        for (int place : new int[] {PointMill.NONE, 0, 1, 5000, Integer.MAX_VALUE}) {
            check.noState(text + ", gap " + place, () -> mill.gap(place));
        }
        check.noState(text + ", greatestGap", () -> mill.greatestGap());
    }

    private static void gapsWithoutAnEnd() {
        check.sentence("gaps without an end, as there are no coins, or a number above 1 divides them all");
        isEndless("no coins", new PointMill());
        isEndless("no coins again", Mills.withCoins(1, 1));
        for (int value = 2; value <= 60; value++) {
            isEndless("one coin, " + value, Mills.withCoins(value));
        }
        isEndless("6 and 10", Mills.withCoins(6, 10));
        isEndless("10 and 6", Mills.withCoins(10, 6));
        isEndless("3 and 60", Mills.withCoins(3, 60));
        isEndless("29 and 58", Mills.withCoins(29, 58));
        isEndless("six coins", Mills.withCoins(2, 4, 6, 8, 10, 60));
        isEndless("six coins of 7", Mills.withCoins(7, 14, 21, 28, 35, 56));
    }

    private static void gapsEndByAllCoinsTogether() {
        check.sentence("gaps having an end: a number above 1 divides some coins, but not all");
        PointMill mill = Mills.withCoins(6, 10);
        isEndless("6 and 10", mill);
        mill.coin(15);
        check.equal("15 too", 29, () -> mill.greatestGap());
        mill.coin(6);
        isEndless("10 and 15", mill);
        mill.coin(1);
        check.equal("1 too", PointMill.NONE, () -> mill.greatestGap());
        mill.coin(1);
        mill.coin(10);
        mill.coin(15);
        isEndless("none is left", mill);
        check.equal("six coins, one of them odd", 91, () -> Mills.withCoins(20, 30, 40, 50, 60, 9).greatestGap());
        check.equal("30, 42 and 35", 313, () -> Mills.withCoins(30, 42, 35).greatestGap());
    }

    private static void gapsReachFarthest() {
        check.sentence("The gaps are sums that cannot be paid: the farthest ones");
        PointMill mill = Mills.withCoins(60, 59);
        check.equal("how many", 1711, () -> mill.gap(PointMill.NONE));
        check.equal("the first one", 1, () -> mill.gap(0));
        check.equal("the 58th one", 58, () -> mill.gap(57));
        check.equal("the 59th one", 61, () -> mill.gap(58));
        check.equal("the last but one", 3362, () -> mill.gap(1709));
        check.equal("the last one", 3421, () -> mill.gap(1710));
        check.noIndex("one too many", () -> mill.gap(1711));
        check.equal("the greatest one", 3421, () -> mill.greatestGap());
    }

    private static void theGreatestGapIsTheLast() {
        check.sentence("greatestGap: Returns the greatest gap, found by the least sum of each rest by the least coin");
        int[][] coins = {
            {2, 3}, {3, 5}, {6, 10, 15}, {59, 60}, {58, 59}, {7, 59, 60}, {60, 55, 49, 47}, {31, 37, 41, 43, 53, 59},
            {55, 56, 57, 58, 59, 60}, {20, 9, 6}, {2, 59}, {59, 2}, {60, 7}
        };
        for (int[] values : coins) {
            PointMill mill = Mills.withCoins(values);
            int size = mill.gap(PointMill.NONE);
            String text = java.util.Arrays.toString(values);
            check.equal(text, mill.gap(size - 1), () -> mill.greatestGap());
            check.noIndex(text + ", none beyond", () -> mill.gap(size));
        }
    }

    private static void theGreatestGapMayBeNone() {
        check.sentence("greatestGap: Returns the gap; NONE without one");
        check.equal("1", PointMill.NONE, () -> Mills.withCoins(1).greatestGap());
        check.equal("1 and 2", PointMill.NONE, () -> Mills.withCoins(2, 1).greatestGap());
        check.equal("1 and 60", PointMill.NONE, () -> Mills.withCoins(60, 1).greatestGap());
        check.equal("six coins", PointMill.NONE, () -> Mills.withCoins(1, 56, 57, 58, 59, 60).greatestGap());
        PointMill mill = Mills.withCoins(2, 3);
        check.equal("1 is a gap", 1, () -> mill.greatestGap());
        mill.coin(1);
        check.equal("1 is a coin", PointMill.NONE, () -> mill.greatestGap());
        mill.coin(1);
        check.equal("1 is a gap again", 1, () -> mill.greatestGap());
    }

    /** Of two coins that nothing divides both, the greatest gap is their product less both. */
    private static void greatestGapOfMany() {
        check.sentence("greatestGap: Returns the greatest gap: of two coins");
        for (int one = 2; one <= 60; one++) {
            for (int other = 2; other < one; other++) {
                PointMill mill = Mills.withCoins(one, other);
                int due = one * other - one - other;
                if (haveCommonDivisor(one, other)) {
                    check.noState(one + " and " + other, () -> mill.greatestGap());
                    check.noState(one + " and " + other + ", gaps", () -> mill.gap(PointMill.NONE));
                } else {
                    check.equal(one + " and " + other, due, () -> mill.greatestGap());
                    check.equal(one + " and " + other + ", gaps", (due + 1) / 2, () -> mill.gap(PointMill.NONE));
                }
            }
        }
    }

    private static boolean haveCommonDivisor(int one, int other) {
        for (int divisor = 2; divisor <= other; divisor++) {
            if (one % divisor == 0 && other % divisor == 0) {
                return true;
            }
        }
        return false;
    }

    private static void zeroIsNoGap() {
        check.sentence("The gaps are sums that cannot be paid; 0 can");
        check.equal("2 and 3", 1, () -> Mills.withCoins(2, 3).gap(0));
        check.equal("59 and 60", 1, () -> Mills.withCoins(59, 60).gap(0));
        check.equal("a coin is no gap", 3, () -> Mills.withCoins(2, 5).gap(1));
        check.equal("twice a coin is no gap", 2, () -> Mills.withCoins(2, 5).gap(PointMill.NONE));
    }
}
