/** Counts the answers that are not the ones that are due, prints each, and ends the test by them. */
final class Due {
    /** A test, or a call that may be refused. */
    interface Call {
        void make();
    }

    private int wrong;
    private String sentence = "";

    /** One sentence of the document, and the test that is its own; another one's failure does not hide it. */
    void hold(String words, Call test) {
        sentence = words;
        try {
            test.make();
        } catch (RuntimeException e) {
            tell("the test ended with " + e + " at " + e.getStackTrace()[0]);
        }
        sentence = "";
    }

    void equal(String what, long got, long want) {
        if (got != want) {
            tell(what + " answered " + got + ", due is " + want);
        }
    }

    void equal(String what, String got, String want) {
        if (!got.equals(want)) {
            tell(what + " answered\n  " + got + ", due is\n  " + want);
        }
    }

    void yes(String what, boolean answer) {
        if (!answer) {
            tell(what + " does not hold");
        }
    }

    void badArgument(String what, Call call) {
        refused(what, call, IllegalArgumentException.class);
    }

    void badIndex(String what, Call call) {
        refused(what, call, IndexOutOfBoundsException.class);
    }

    void notBadArgument(String what, Call call) {
        try {
            call.make();
        } catch (IllegalArgumentException e) {
            tell(what + " threw " + e + ", though its arguments are fine");
        } catch (IndexOutOfBoundsException e) {
            // The arguments were fine; what they ask for is not there, or there is no room.
            return;
        }
    }

    private void refused(String what, Call call, Class<? extends RuntimeException> want) {
        try {
            call.make();
        } catch (RuntimeException e) {
            if (e.getClass() != want) {
                tell(what + " threw " + e.getClass().getName() + ", due is " + want.getName());
            }
            return;
        }
        tell(what + " threw nothing, due is " + want.getName());
    }

    private void tell(String text) {
        wrong++;
        System.out.println(sentence.isEmpty() ? text : "\"" + sentence + "\": " + text);
    }

    void end() {
        if (wrong != 0) {
            System.out.println(wrong + " answers are not as due");
            System.exit(1);
        }
    }
}
