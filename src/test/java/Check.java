import java.util.Arrays;

/** Compares answers of mills with those that are due, and tells of each that differs. */
final class Check {
    interface Call {
        long answer();
    }

    private String sentence = "";
    private int made;
    private int wrong;

    /** The sentence of the document that the answers from here on are about: told with each that differs. */
    void sentence(String text) {
        sentence = text;
    }

    void equal(String text, long due, Call call) {
        made++;
        try {
            long got = call.answer();
            if (got != due) {
                tell(text, "answered " + got + ", due is " + due);
            }
        } catch (RuntimeException thrown) {
            tell(text, "threw " + thrown + ", due is " + due);
        }
    }

    /** The class must be the very one: a machine's exception may be of a class below it. */
    void thrown(String text, Class<? extends RuntimeException> due, Call call) {
        made++;
        try {
            tell(text, "answered " + call.answer() + ", due is " + due.getName());
        } catch (RuntimeException thrown) {
            if (thrown.getClass() != due) {
                tell(text, "threw " + thrown + ", due is " + due.getName());
            }
        }
    }

    void noIndex(String text, Call call) {
        thrown(text, IndexOutOfBoundsException.class, call);
    }

    void noArgument(String text, Call call) {
        thrown(text, IllegalArgumentException.class, call);
    }

    void noState(String text, Call call) {
        thrown(text, IllegalStateException.class, call);
    }

    void isTrue(String text, boolean holds) {
        equal(text, 1, () -> holds ? 1 : 0);
    }

    void same(String text, String due, String got) {
        made++;
        if (!got.equals(due)) {
            tell(text, "is\n" + got + "\ndue is\n" + due);
        }
    }

    /** The parts of an inequality of the shape 0. */
    void inequality(String text, PointMill mill, int number, int... parts) {
        for (int what = 0; what < parts.length; what++) {
            int asked = what;
            equal(text + ", part " + what, parts[what], () -> mill.inequality(0, number, asked));
        }
    }

    /** The points of the shape 0, by both ways. */
    void counts(String text, long due, int letter, PointMill mill) {
        equal(text + ", count", due, () -> mill.count(0, letter));
        equal(text + ", countAnew", due, () -> mill.countAnew(0, letter));
    }

    /** What is greatest, x and y of the best point of the shape 0. */
    void best(String text, PointMill mill, int letter, int p, int q, int... due) {
        for (int what = 0; what < 3; what++) {
            int asked = what;
            equal(text + ", what " + what, due[what], () -> mill.best(0, letter, p, q, asked));
        }
    }

    /** How many generators there are, each of them, and none beyond, by both ways. */
    void generators(int[] cone, int... due) {
        for (boolean anew : new boolean[] {false, true}) {
            String text = (anew ? "generatorAnew " : "generator ") + Arrays.toString(cone);
            int size = due.length / 2;
            equal(text + ", how many", size, () -> Cones.ask(anew, cone, PointMill.NONE, true));
            for (int place = 0; place < size; place++) {
                int asked = place;
                equal(text + ", first of " + place, due[2 * place], () -> Cones.ask(anew, cone, asked, true));
                equal(text + ", second of " + place, due[2 * place + 1], () -> Cones.ask(anew, cone, asked, false));
            }
            noIndex(text + ", one too many", () -> Cones.ask(anew, cone, size, true));
            noIndex(text + ", one too many", () -> Cones.ask(anew, cone, size, false));
        }
    }

    private void tell(String text, String what) {
        wrong++;
        System.out.println((sentence.isEmpty() ? "" : "[" + sentence + "] ") + text + " " + what);
    }

    /** The last call of a test: ends with exit code 1 if an answer was wrong. */
    void end() {
        System.out.println(made + " answers looked at, " + wrong + " wrong");
        if (wrong > 0 || made == 0) {
            System.exit(1);
        }
    }
}
