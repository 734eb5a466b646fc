/** Keeps score of the answers of one test; a test ends with done(). */
final class Due {
    private int wrong = 0;
    private int asked = 0;

    /** A call that may throw. */
    interface Call {
        long answer();
    }

    /** A call with one argument that is looked at. */
    interface Of {
        long answer(int number);
    }

    void is(String what, long got, long want) {
        asked++;
        if (got != want) {
            wrong++;
            System.out.println(what + " answered " + got + ", due is " + want);
        }
    }

    void is(String what, boolean got, boolean want) {
        is(what, got ? 1 : 0, want ? 1 : 0);
    }

    void is(String what, String got, String want) {
        asked++;
        if (!got.equals(want)) {
            wrong++;
            System.out.println(what + " answered " + got + ", due is " + want);
        }
    }

    /** The very class is looked at: what the machine throws is of a class below those of the document. */
    void throwing(String what, Class<? extends RuntimeException> want, Call call) {
        is(what, outcome(call), "throws " + want.getName());
    }

    /** The least and the most are taken, and answered as due; their neighbours and the farthest are not. */
    void takes(String what, int least, int most, Class<? extends RuntimeException> beyond, long want, Of call) {
        for (int n : new int[] {least, least + 1, most - 1, most}) {
            is(what + " " + n, outcome(() -> call.answer(n)), String.valueOf(want));
        }
        for (int n : new int[] {least - 1, most + 1, Integer.MIN_VALUE, Integer.MAX_VALUE}) {
            throwing(what + " " + n, beyond, () -> call.answer(n));
        }
    }

    void takesIndex(String what, int most, long want, Of call) {
        takes(what, 0, most, IndexOutOfBoundsException.class, want, call);
    }

    void takesNumber(String what, int least, int most, long want, Of call) {
        takes(what, least, most, IllegalArgumentException.class, want, call);
    }

    static long of(boolean answer) {
        return answer ? 1 : 0;
    }

    static String outcome(Call call) {
        try {
            return String.valueOf(call.answer());
        } catch (RuntimeException e) {
            return "throws " + e.getClass().getName();
        }
    }

    void index(String what, Call call) {
        throwing(what, IndexOutOfBoundsException.class, call);
    }

    void argument(String what, Call call) {
        throwing(what, IllegalArgumentException.class, call);
    }

    void full(String what, Call call) {
        throwing(what, UnsupportedOperationException.class, call);
    }

    void none(String what, Call call) {
        throwing(what, java.util.NoSuchElementException.class, call);
    }

    void done() {
        System.out.println(asked + " answers, " + wrong + " not as due");
        if (wrong != 0 || asked == 0) {
            System.exit(1);
        }
    }
}
