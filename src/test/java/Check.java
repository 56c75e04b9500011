/** Counts and prints the answers that are not as due, each under the sentence that asks for it. */
final class Check {
    interface Call {
        Object answer();
    }

    private final String test;
    private String sentence = "";
    private int wrong = 0;

    Check(String test) {
        this.test = test;
    }

    /** One test: what holds if this sentence of the document does. */
    void test(String itsSentence, Runnable body) {
        sentence = " \"" + itsSentence + "\"";
        try {
            body.run();
        } catch (RuntimeException e) {
            tell("the test itself was ended by " + e);
        }
        sentence = "";
    }

    /** What a call does, as a text: its answer, or the name of what it throws. */
    static String outcome(Call call) {
        try {
            return String.valueOf(call.answer());
        } catch (RuntimeException e) {
            return "throws." + e.getClass().getSimpleName();
        }
    }

    void same(String what, String got, String want) {
        if (!got.equals(want)) {
            tell(what + " answered " + got + ", due is " + want);
        }
    }

    private void tell(String what) {
        wrong++;
        System.out.println(test + sentence + ": " + what);
    }

    void due(String what, Call call, Object want) {
        same(what, outcome(call), String.valueOf(want));
    }

    void that(String what, boolean holds) {
        due(what, () -> holds, true);
    }

    void yes(String what, Call call) {
        due(what, call, true);
    }

    void no(String what, Call call) {
        due(what, call, false);
    }

    void noIndex(String what, Call call) {
        same(what, outcome(call), "throws.IndexOutOfBoundsException");
    }

    void noArgument(String what, Call call) {
        same(what, outcome(call), "throws.IllegalArgumentException");
    }

    void noState(String what, Call call) {
        same(what, outcome(call), "throws.IllegalStateException");
    }

    /** The four cells of a row. */
    void row(Counted x, int k, int... want) {
        for (int what = 0; what < 4; what++) {
            int w = what;
            due("row(" + k + ", " + w + ")", () -> x.row(k, w), want[w]);
        }
    }

    /** Calls that are refused: they leave all as it was. */
    void nothingChanges(Counted x, Runnable refusedCalls) {
        String before = Scenes.state(x);
        refusedCalls.run();
        same("the state behind refused calls", Scenes.state(x), before);
    }

    int wrong() {
        return wrong;
    }

    void end() {
        if (wrong != 0) {
            System.out.println(test + ": " + wrong + " answers are not as due");
            System.exit(1);
        }
    }
}
