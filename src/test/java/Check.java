/** Compares answers with those that are due, and tells of each that differs. */
final class Check {
    interface Call {
        long answer();
    }

    private int made;
    private int wrong;

    void equal(String text, long due, Call call) {
        made++;
        try {
            long got = call.answer();
            if (got != due) {
                tell(text, "answered " + got + ", due is " + due);
            }
        } catch (RuntimeException thrown) {
            tell(text, "threw " + thrown + ", due is " + due);
        }
    }

    /** The class must be the very one: a machine's exception may be of a class below it. */
    void thrown(String text, Class<? extends RuntimeException> due, Call call) {
        made++;
        try {
            tell(text, "answered " + call.answer() + ", due is " + due.getName());
        } catch (RuntimeException thrown) {
            if (thrown.getClass() != due) {
                tell(text, "threw " + thrown + ", due is " + due.getName());
            }
        }
    }

    void noIndex(String text, Call call) {
        thrown(text, IndexOutOfBoundsException.class, call);
    }

    void noArgument(String text, Call call) {
        thrown(text, IllegalArgumentException.class, call);
    }

    void noState(String text, Call call) {
        thrown(text, IllegalStateException.class, call);
    }

    void isTrue(String text, boolean holds) {
        equal(text, 1, () -> holds ? 1 : 0);
    }

    private void tell(String text, String what) {
        wrong++;
        System.out.println(text + " " + what);
    }

    /** The last call of a test: ends with exit code 1 if an answer was wrong. */
    void end() {
        System.out.println(made + " answers looked at, " + wrong + " wrong");
        if (wrong > 0 || made == 0) {
            System.exit(1);
        }
    }
}
