/** Promise 21: count. */
public final class Promise21CountTest {
    private static final Check CHECK = new Check("Promise 21");

    public static void main(String[] args) {
        CHECK.test("what 0: trees", Promise21CountTest::trees);
        CHECK.test("what 1: rules", Promise21CountTest::rules);
        CHECK.test("what 2: rows that are kept", Promise21CountTest::rows);
        CHECK.test("-1 for another what", Promise21CountTest::anotherWhat);
        CHECK.end();
    }

    private static void trees() {
        Counted x = new Counted();
        CHECK.due("none", () -> x.count(0), 0);
        int a = x.leaf(0);
        CHECK.due("one", () -> x.count(0), 1);
        x.leaf(0);
        CHECK.due("still one", () -> x.count(0), 1);
        Scenes.fill(x, a, 299);
        CHECK.due("299", () -> x.count(0), 299);
        x.node(0, a, -1);
        CHECK.due("300", () -> x.count(0), 300);
        CHECK.noState("one more", () -> x.hole(0));
        CHECK.due("still 300", () -> x.count(0), 300);
        CHECK.due("no rules", () -> x.count(1), 0);
        CHECK.due("no rows", () -> x.count(2), 0);
    }

    private static void rules() {
        Counted x = new Counted();
        int f = x.node(0, x.leaf(0), -1);
        for (int n = 0; n < 16; n++) {
            CHECK.due(n + " rules", () -> x.count(1), n);
            x.rule(f, f, -1);
        }
        CHECK.due("16", () -> x.count(1), 16);
        x.rule(f, f, -1);
        CHECK.due("still 16", () -> x.count(1), 16);
        x.choose(0, false);
        CHECK.due("those that aren't chosen too", () -> x.count(1), 16);
        CHECK.due("trees", () -> x.count(0), 2);
        CHECK.due("no rows", () -> x.count(2), 0);
    }

    private static void rows() {
        Counted x = Scenes.counter();
        int c199 = Scenes.countdown(x, 199);
        int c200 = Scenes.countdown(x, 200);
        int c201 = Scenes.countdown(x, 201);
        CHECK.due("no run yet", () -> x.count(2), 0);
        x.rewrite(c201, 0);
        CHECK.due("no step", () -> x.count(2), 0);
        x.rewrite(c201, 1);
        CHECK.due("one step", () -> x.count(2), 1);
        x.normal(c199);
        CHECK.due("199 steps", () -> x.count(2), 199);
        x.normal(c200);
        CHECK.due("200 steps", () -> x.count(2), 200);
        x.normal(c201);
        CHECK.due("201 steps: those that are kept", () -> x.count(2), 200);
        x.rewrite(c201, 200);
        CHECK.due("200 of 201 steps", () -> x.count(2), 200);
        x.joins(c199, c200);
        CHECK.due("joins() keeps none", () -> x.count(2), 200);
        x.normal(0);
        CHECK.due("no step again", () -> x.count(2), 0);
    }

    private static void anotherWhat() {
        Counted x = new Counted();
        for (int round = 0; round < 2; round++) {
            CHECK.due("count(-1)", () -> x.count(-1), -1);
            CHECK.due("count(3)", () -> x.count(3), -1);
            CHECK.due("the lowest int", () -> x.count(Integer.MIN_VALUE), -1);
            CHECK.due("the highest int", () -> x.count(Integer.MAX_VALUE), -1);
            x.rule(x.node(0, x.leaf(0), -1), 0, -1);
        }
    }
}
