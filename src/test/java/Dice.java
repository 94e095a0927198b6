/** Numbers that look thrown, and are the same ones each time. */
final class Dice {
    private long state;

    Dice(int run) {
        state = run * 7919L + 12345;
        below(2);
        below(2);
    }

    /** From 0 to below that number. */
    int below(int end) {
        state = state * 6364136223846793005L + 1442695040888963407L;
        return (int) Math.floorMod(state >> 33, (long) end);
    }

    boolean yes() {
        return below(2) == 1;
    }
}
