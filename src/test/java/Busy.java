/** A mill that has something of each kind, for tests of what a call leaves. */
final class Busy {
    /** Its shapes: with a letter, of 10 inequalities, without any, no place, a place without points. */
    static final int TRIANGLE = 0, FULL = 1, NOTHING = 2, QUARTER = 3, NO_POINTS = 4, SHAPES = 5;
    /** How many inequalities each has. */
    static final int[] SIZES = {3, 10, 0, 2, 4};

    private Busy() {
    }

    static PointMill withoutCoins() {
        PointMill mill = new PointMill();
        for (int i = 0; i < SHAPES; i++) {
            mill.shape();
        }
        Mills.add(mill, TRIANGLE, -1, 0, 0, 0, 0, -1, 0, 0, 2, 3, 12, 1);
        Mills.add(mill, FULL, 1, 0, 3, 0, -1, 0, 2, 0, 0, 1, 1, 0, 0, -1, 4, 0, 1, 1, 9, 0);
        Mills.add(mill, FULL, 1, -1, 9, 0, -1, 1, 9, 0, -1, -1, 9, 0, 2, 1, 9, 0, 1, 2, 4, 0);
        Mills.add(mill, QUARTER, 1, 0, 5, 0, 0, 1, 5, 0);
        Mills.add(mill, NO_POINTS, 1, 0, 5, 0, -1, 0, -6, 0, 0, 1, 5, 0, 0, -1, 5, 0);
        return mill;
    }

    /** With 6 coins. */
    static PointMill mill() {
        PointMill mill = withoutCoins();
        for (int value : new int[] {6, 10, 15, 7, 59, 60}) {
            mill.coin(value);
        }
        return mill;
    }
}
