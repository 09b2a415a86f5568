/** Compares answers with those that are due, and tells the ones that are not. */
final class Due {
    /** A call whose answer is a number. */
    interface Call {
        long answer();
    }

    /** A call whose answer is a truth value. */
    interface Ask {
        boolean answer();
    }

    static final Class<? extends RuntimeException> INDEX = IndexOutOfBoundsException.class;
    static final Class<? extends RuntimeException> ARGUMENT = IllegalArgumentException.class;
    static final Class<? extends RuntimeException> STATE = IllegalStateException.class;

    private int right;
    private int wrong;

    void is(String what, long due, Call call) {
        tell(what, String.valueOf(due), outcome(call));
    }

    void holds(String what, boolean due, Ask ask) {
        is(what, due ? 1 : 0, () -> ask.answer() ? 1 : 0);
    }

    void refuses(String what, Class<? extends RuntimeException> due, Call call) {
        tell(what, due.getName(), outcome(call));
    }

    /** Prints the count and ends the program with exit code 1 if an answer was wrong. */
    void end() {
        System.out.println(right + " answers as due, " + wrong + " not");
        if (wrong != 0) {
            System.exit(1);
        }
    }

    /** The answer as a text, or the exact class of what the call throws. */
    static String outcome(Call call) {
        try {
            return String.valueOf(call.answer());
        } catch (RuntimeException e) {
            return e.getClass().getName();
        }
    }

    /** The set of some cells, cards or players. */
    static int set(int... members) {
        int set = 0;
        for (int member : members) {
            set |= 1 << member;
        }
        return set;
    }

    private void tell(String what, String due, String got) {
        if (got.equals(due)) {
            right++;
        } else {
            wrong++;
            System.out.println(what + ": answered " + got + ", due is " + due);
        }
    }
}
