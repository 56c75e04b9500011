/** Promise 13: steps. */
public final class Promise13StepsTest {
    private static final Check CHECK = new Check("Promise 13");

    public static void main(String[] args) {
        CHECK.test("How many steps the latest rewrite() made", Promise13StepsTest::ofRewrite);
        CHECK.test("or normal(): all of them, more than 200 too", Promise13StepsTest::ofNormal);
        CHECK.test("the latest of both", Promise13StepsTest::latest);
        CHECK.test("the latest, not one that was refused", Promise13StepsTest::notRefused);
        CHECK.test("none yet", Promise13StepsTest::noneYet);
        CHECK.end();
    }

    private static void ofRewrite() {
        Counted x = Scenes.counter();
        int c200 = Scenes.countdown(x, 200);
        for (int steps : new int[] {0, 1, 199, 200}) {
            x.rewrite(c200, steps);
            CHECK.due(steps + " steps", x::steps, steps);
        }
        x.rewrite(Scenes.countdown(x, 3), 200);
        CHECK.due("3 of 200", x::steps, 3);
        x.rewrite(0, 200);
        CHECK.due("none of 200", x::steps, 0);
    }

    private static void ofNormal() {
        Counted x = Scenes.counter();
        for (int steps : new int[] {1, 199, 200, 201, 216}) {
            x.normal(Scenes.countdown(x, steps));
            CHECK.due(steps + " steps", x::steps, steps);
        }
        x.normal(0);
        CHECK.due("none", x::steps, 0);
    }

    private static void latest() {
        Counted x = Scenes.counter();
        int c3 = Scenes.countdown(x, 3);
        int c5 = Scenes.countdown(x, 5);
        x.rewrite(c5, 200);
        x.normal(c3);
        CHECK.due("normal() is the latest", x::steps, 3);
        x.rewrite(c5, 4);
        CHECK.due("rewrite() is", x::steps, 4);
        x.joins(c3, c5);
        CHECK.due("joins() is neither", x::steps, 4);
    }

    private static void notRefused() {
        Counted x = new Counted();
        int h = x.hole(0);
        int a = x.leaf(0);
        int f = x.node(0, h, -1);
        x.rule(f, x.node(0, f, -1), -1);
        x.rule(x.node(8, f, a), Scenes.around(x, 0, h, 3), -1);
        int fa = x.node(0, a, -1);
        int tooDeep = x.node(8, Scenes.around(x, 0, a, 29), a);
        x.rewrite(fa, 2);
        CHECK.noState("too deep", () -> x.rewrite(fa, 200));
        CHECK.noState("too deep for normal()", () -> x.normal(tooDeep));
        CHECK.noState("too deep for joins()", () -> x.joins(a, tooDeep));
        CHECK.noArgument("not plain", () -> x.normal(f));
        CHECK.noArgument("201 steps", () -> x.rewrite(fa, 201));
        CHECK.noIndex("no such tree", () -> x.rewrite(-1, 0));
        CHECK.due("as it was", x::steps, 2);
    }

    private static void noneYet() {
        Counted x = Scenes.counter();
        CHECK.due("new", x::steps, 0);
        x.joins(Scenes.countdown(x, 3), 0);
        CHECK.due("joins() alone", x::steps, 0);
    }
}
