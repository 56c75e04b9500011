/** "What it is": for how many calls an object is used. */
public final class CallsTest {
    private static final Check CHECK = new Check("What it is");

    public static void main(String[] args) {
        CHECK.test("An object is used for at most 512 calls after it has been made", CallsTest::theLastCall);
        CHECK.test("at most 512 calls: all of them may make something", CallsTest::callsThatMakeAll);
        CHECK.end();
    }

    private static void theLastCall() {
        Counted x = new Counted();
        int h = x.hole(0);
        int f = x.node(0, h, -1);
        x.rule(f, h, -1);
        int a = x.leaf(0);
        int top = Scenes.around(x, 0, a, 30);
        while (x.calls() < Counted.MOST_CALLS - 1) {
            CHECK.due("call " + x.calls(), () -> x.rewrite(top, 200), a);
        }
        CHECK.due("the 512th call", () -> x.rewrite(top, 200), a);
        CHECK.due("calls", x::calls, 512);
    }

    private static void callsThatMakeAll() {
        Counted x = new Counted();
        int a = x.leaf(0);
        Scenes.fill(x, a, 300);
        int left = 1;
        for (int rule = 0; rule < 16; rule++) {
            int r = rule;
            CHECK.due("rule " + r, () -> x.rule(left, left, -1), r);
        }
        while (x.calls() < Counted.MOST_CALLS - 1) {
            x.rewrite(299, 200);
        }
        CHECK.due("the 512th call", () -> x.row(199, 3), 299);
    }
}
