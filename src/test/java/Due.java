/** Counts the answers that are not the ones that are due, prints each, and ends the test by them. */
final class Due {
    /** A call that may be refused. */
    interface Call {
        void make();
    }

    private int wrong;

    void equal(String what, long got, long want) {
        if (got != want) {
            tell(what + " answered " + got + ", due is " + want);
        }
    }

    void equal(String what, String got, String want) {
        if (!got.equals(want)) {
            tell(what + " answered\n  " + got + ", due is\n  " + want);
        }
    }

    void badArgument(String what, Call call) {
        refused(what, call, IllegalArgumentException.class);
    }

    void badIndex(String what, Call call) {
        refused(what, call, IndexOutOfBoundsException.class);
    }

    private void refused(String what, Call call, Class<? extends RuntimeException> want) {
        try {
            call.make();
        } catch (RuntimeException e) {
            if (e.getClass() != want) {
                tell(what + " threw " + e.getClass().getName() + ", due is " + want.getName());
            }
            return;
        }
        tell(what + " threw nothing, due is " + want.getName());
    }

    private void tell(String text) {
        wrong++;
        System.out.println(text);
    }

    void end() {
        if (wrong != 0) {
            System.out.println(wrong + " answers are not as due");
            System.exit(1);
        }
    }
}
