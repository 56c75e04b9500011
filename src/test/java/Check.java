/** Counts and prints the answers that are not as due. */
final class Check {
    interface Call {
        long answer();
    }

    private final String test;
    private int wrong = 0;

    Check(String test) {
        this.test = test;
    }

    static long of(boolean answer) {
        return answer ? 1 : 0;
    }

    /** What a call does, as a text: its answer, or the name of what it throws. */
    static String outcome(Call call) {
        try {
            return Long.toString(call.answer());
        } catch (RuntimeException e) {
            return "throws." + e.getClass().getSimpleName();
        }
    }

    void same(String what, String got, String want) {
        if (!got.equals(want)) {
            wrong++;
            System.out.println(test + ": " + what + " answered " + got + ", due is " + want);
        }
    }

    void due(String what, Call call, long want) {
        same(what, outcome(call), Long.toString(want));
    }

    void holds(String what, boolean answer) {
        same(what, Boolean.toString(answer), "true");
    }

    void fails(String what, boolean answer) {
        same(what, Boolean.toString(answer), "false");
    }

    void noIndex(String what, Call call) {
        same(what, outcome(call), "throws.IndexOutOfBoundsException");
    }

    void noArgument(String what, Call call) {
        same(what, outcome(call), "throws.IllegalArgumentException");
    }

    void noState(String what, Call call) {
        same(what, outcome(call), "throws.IllegalStateException");
    }

    int wrong() {
        return wrong;
    }

    void end() {
        if (wrong != 0) {
            System.out.println(test + ": " + wrong + " answers are not as due");
            System.exit(1);
        }
    }
}
