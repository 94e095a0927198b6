/** Cones for the tests, and calls that ask for their generators by either way. */
final class Cones {
    private Cones() {
    }

    static int[] of(int... parts) {
        return parts;
    }

    static int ask(boolean anew, int[] cone, int place, boolean first) {
        return ask(Mills.any(), anew, cone, place, first);
    }

    static int ask(PointMill mill, boolean anew, int[] cone, int place, boolean first) {
        return anew
                ? mill.generatorAnew(cone[0], cone[1], cone[2], cone[3], place, first)
                : mill.generator(cone[0], cone[1], cone[2], cone[3], place, first);
    }
}
