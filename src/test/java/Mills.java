/** Mills for the tests, and numbers to ask them with. */
final class Mills {
    /** A call that is made on more than one mill. */
    interface Ask {
        long of(PointMill mill);
    }

    /** An object serves 512 calls; one that is asked more often than this makes room for a new one. */
    private static final int MOST_CALLS = 500;

    private static PointMill kept = new PointMill();
    private static int calls;

    private Mills() {
    }

    /** A mill with one shape, 0, of the inequalities told, four numbers each. */
    static PointMill of(int... parts) {
        PointMill mill = new PointMill();
        mill.shape();
        add(mill, 0, parts);
        return mill;
    }

    static void add(PointMill mill, int shape, int... parts) {
        for (int i = 0; i + 3 < parts.length; i += 4) {
            mill.add(shape, parts[i], parts[i + 1], parts[i + 2], parts[i + 3]);
        }
    }

    static PointMill withCoins(int... values) {
        PointMill mill = new PointMill();
        for (int value : values) {
            mill.coin(value);
        }
        return mill;
    }

    /** A mill for one call that needs no state. */
    static PointMill any() {
        calls++;
        if (calls > MOST_CALLS) {
            calls = 1;
            kept = new PointMill();
        }
        return kept;
    }

    static long number(boolean holds) {
        return holds ? 1 : 0;
    }

    /** Numbers out of a range: the next ones on either side, the last ones, and some that a narrow type cuts to 1. */
    static int[] beyond(int least, int most) {
        return new int[] {least - 1, most + 1, Integer.MIN_VALUE, Integer.MAX_VALUE, (1 << 16) + 1, 1 - (1 << 16)};
    }
}
