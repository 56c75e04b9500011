/** Promise 11: spent. */
public final class Promise11SpentTest {
    private static final Check CHECK = new Check("Promise 11");

    public static void main(String[] args) {
        CHECK.test("false without any", Promise11SpentTest::withoutAny);
        CHECK.test("had to stop while some rule matched yet", Promise11SpentTest::hadToStop);
        CHECK.test("had to stop, after 200 steps", Promise11SpentTest::after200);
        CHECK.test("some rule: of those that may be used", Promise11SpentTest::someRule);
        CHECK.test("the latest rewrite()", Promise11SpentTest::latest);
        CHECK.test("the latest rewrite(), not one that was refused", Promise11SpentTest::notRefused);
        CHECK.end();
    }

    private static void withoutAny() {
        Counted x = Scenes.counter();
        CHECK.no("new", x::spent);
        x.normal(Scenes.countdown(x, 201));
        CHECK.no("normal() isn't rewrite()", x::spent);
        x.joins(0, Scenes.countdown(x, 2));
        CHECK.no("nor is joins()", x::spent);
        CHECK.noArgument("a refused rewrite()", () -> x.rewrite(0, 201));
        CHECK.no("that isn't one either", x::spent);
    }

    private static void hadToStop() {
        Counted x = Scenes.counter();
        int c3 = Scenes.countdown(x, 3);
        boolean[] due = {true, true, true, false, false};
        for (int steps = 0; steps < due.length; steps++) {
            x.rewrite(c3, steps);
            CHECK.due(steps + " steps of 3", x::spent, due[steps]);
        }
        x.rewrite(0, 0);
        CHECK.no("no steps of none", x::spent);
        x.rewrite(0, 200);
        CHECK.no("200 steps of none", x::spent);
    }

    private static void after200() {
        Counted x = Scenes.counter();
        int c200 = Scenes.countdown(x, 200);
        int c201 = Scenes.countdown(x, 201);
        x.rewrite(c201, 200);
        CHECK.yes("200 of 201", x::spent);
        x.rewrite(c200, 200);
        CHECK.no("200 of 200", x::spent);
        x.rewrite(c200, 199);
        CHECK.yes("199 of 200", x::spent);
        int f = x.node(0, 0, -1);
        x.choose(0, false);
        x.rewrite(f, 200);
        CHECK.no("nothing matched", x::spent);
    }

    private static void someRule() {
        Counted x = new Counted();
        int a = x.leaf(0);
        int f = x.node(0, a, -1);
        int g = x.node(1, f, -1);
        x.rule(f, f, 7);
        x.rewrite(f, 0);
        CHECK.no("one whose condition is open", x::spent);
        x.holds(7, 1);
        x.rewrite(f, 0);
        CHECK.yes("yes", x::spent);
        x.rewrite(g, 3);
        CHECK.yes("within", x::spent);
        x.choose(0, false);
        x.rewrite(f, 0);
        CHECK.no("one that isn't chosen", x::spent);
        x.choose(0, true);
        x.holds(7, 0);
        x.rewrite(g, 5);
        CHECK.no("no", x::spent);
    }

    private static void latest() {
        Counted x = Scenes.counter();
        int c3 = Scenes.countdown(x, 3);
        x.rewrite(c3, 2);
        CHECK.yes("had to stop", x::spent);
        x.normal(c3);
        CHECK.yes("normal() doesn't change that", x::spent);
        x.joins(c3, 0);
        CHECK.yes("nor does joins()", x::spent);
        for (int rule = 0; rule < 16; rule++) {
            x.choose(rule, false);
        }
        CHECK.yes("nor what is chosen later", x::spent);
        x.rewrite(c3, 2);
        CHECK.no("but a later rewrite() does", x::spent);
        x.choose(0, true);
        CHECK.no("what is chosen later doesn't, again", x::spent);
    }

    private static void notRefused() {
        Counted x = new Counted();
        int h = x.hole(0);
        int f = x.node(0, h, -1);
        x.rule(f, x.node(0, f, -1), -1);
        int a = x.leaf(0);
        int fa = x.node(0, a, -1);
        x.rewrite(fa, 1);
        CHECK.noState("too deep", () -> x.rewrite(fa, 200));
        CHECK.yes("as it was", x::spent);
        CHECK.noArgument("201 steps", () -> x.rewrite(a, 201));
        CHECK.noIndex("no such tree", () -> x.rewrite(99, 0));
        CHECK.yes("still", x::spent);
        x.normal(a);
        CHECK.noState("too deep, behind a normal() that came to its end", () -> x.rewrite(fa, 200));
        CHECK.yes("that of rewrite() yet", x::spent);
        x.rewrite(a, 1);
        CHECK.noState("too deep again", () -> x.rewrite(fa, 200));
        CHECK.noArgument("not plain", () -> x.rewrite(f, 0));
        CHECK.no("as it was then", x::spent);
    }
}
