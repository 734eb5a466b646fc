/** Keeps score of the answers of one test; a test ends with done(). */
final class Due {
    private int wrong = 0;
    private int asked = 0;

    /** A call that may throw. */
    interface Call {
        long answer();
    }

    void is(String what, long got, long want) {
        asked++;
        if (got != want) {
            wrong++;
            System.out.println(what + " answered " + got + ", due is " + want);
        }
    }

    void is(String what, boolean got, boolean want) {
        is(what, got ? 1 : 0, want ? 1 : 0);
    }

    void is(String what, String got, String want) {
        asked++;
        if (!got.equals(want)) {
            wrong++;
            System.out.println(what + " answered " + got + ", due is " + want);
        }
    }

    /** The very class is looked at: what the machine throws is of a class below those of the document. */
    void throwing(String what, Class<? extends RuntimeException> want, Call call) {
        is(what, outcome(call), "throws " + want.getName());
    }

    static String outcome(Call call) {
        try {
            return String.valueOf(call.answer());
        } catch (RuntimeException e) {
            return "throws " + e.getClass().getName();
        }
    }

    void index(String what, Call call) {
        throwing(what, IndexOutOfBoundsException.class, call);
    }

    void argument(String what, Call call) {
        throwing(what, IllegalArgumentException.class, call);
    }

    void full(String what, Call call) {
        throwing(what, UnsupportedOperationException.class, call);
    }

    void none(String what, Call call) {
        throwing(what, java.util.NoSuchElementException.class, call);
    }

    void done() {
        System.out.println(asked + " answers, " + wrong + " not as due");
        if (wrong != 0 || asked == 0) {
            System.exit(1);
        }
    }
}
