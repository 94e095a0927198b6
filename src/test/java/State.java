/** All that a mill tells of its shapes and coins, as one text. The mill is used up by it. */
final class State {
    /** The 512 calls of an object, less those that a test needs ahead of this. */
    private static final int MOST_CALLS = 440;

    private final PointMill mill;
    private int calls;
    private final StringBuilder text = new StringBuilder();

    private State(PointMill mill) {
        this.mill = mill;
    }

    static String of(PointMill mill) {
        State state = new State(mill);
        for (int shape = 0; shape <= 8; shape++) {
            state.tellInequalities(shape);
        }
        state.tellCoins();
        state.tellRoom();
        return state.text.toString();
    }

    /** Returns whether the call answered. */
    private boolean tell(Check.Call call) {
        calls++;
        if (calls > MOST_CALLS) {
            throw new AssertionError("this state is told by too many calls");
        }
        try {
            text.append(call.answer()).append(' ');
            return true;
        } catch (RuntimeException thrown) {
            text.append(thrown.getClass().getSimpleName()).append(' ');
            return false;
        }
    }

    private void tellInequalities(int shape) {
        text.append("\nshape ").append(shape).append(": ");
        if (!tell(() -> Mills.number(mill.isPlace(shape)))) {
            return;
        }
        boolean isThere = true;
        for (int i = 0; i <= 10 && isThere; i++) {
            int asked = i;
            isThere = tell(() -> mill.inequality(shape, asked, 0));
            for (int what = 1; what <= 3 && isThere; what++) {
                int part = what;
                tell(() -> mill.inequality(shape, asked, part));
            }
        }
        tell(() -> mill.count(shape, 3));
        tell(() -> mill.countAnew(shape, 3));
        tell(() -> mill.best(shape, 3, 1, 1, 0));
    }

    private void tellCoins() {
        text.append("\nways: ");
        for (int sum = 0; sum <= 60; sum++) {
            int asked = sum;
            tell(() -> mill.ways(asked));
        }
        text.append("\ngaps: ");
        tell(() -> mill.gap(PointMill.NONE));
        tell(() -> mill.gap(0));
        tell(() -> mill.greatestGap());
        text.append("\ncoin 1, twice: ");
        tell(() -> mill.coin(1));
        tell(() -> mill.coin(1));
    }

    /** The number of each shape and inequality that still can be made. */
    private void tellRoom() {
        for (int shape = 0; shape <= 8; shape++) {
            int asked = shape;
            text.append("\nadded to shape ").append(shape).append(": ");
            boolean isThere = true;
            for (int i = 0; i <= 10 && isThere; i++) {
                isThere = tell(() -> mill.add(asked, 1, 1, 1, 1));
            }
        }
        text.append("\nmade: ");
        boolean isMade = true;
        for (int i = 0; i <= 8 && isMade; i++) {
            isMade = tell(() -> mill.shape());
        }
    }
}
