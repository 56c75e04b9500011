/** Promise 14: domain. */
public final class Promise14DomainTest {
    private static final Check CHECK = new Check("Promise 14");

    public static void main(String[] args) {
        CHECK.test("as a sum of 1 << condition", Promise14DomainTest::eachCondition);
        CHECK.test("The conditions of all rules that the rows are by: each once", Promise14DomainTest::once);
        CHECK.test("rules that have none (-1)", Promise14DomainTest::withoutCondition);
        CHECK.test("rules that the kept rows are by, not others", Promise14DomainTest::notOthers);
        CHECK.test("the kept rows: the first 200", Promise14DomainTest::first200);
        CHECK.test("the kept rows: none", Promise14DomainTest::noRows);
        CHECK.test("the kept rows, not those of a refused run", Promise14DomainTest::notRefused);
        CHECK.end();
    }

    /** Leaf c becomes leaf c - 1 within 0(..), by the condition c; 0(leaf 0) becomes leaf 0 by 0. */
    private static Counted tenConditions() {
        Counted x = new Counted();
        int[] nodes = new int[10];
        for (int c = 0; c < 10; c++) {
            nodes[c] = x.node(0, x.leaf(c), -1);
            x.rule(nodes[c], c == 0 ? 0 : nodes[c - 1], c);
            x.holds(c, 1);
        }
        return x;
    }

    private static void eachCondition() {
        Counted x = tenConditions();
        for (int condition = 0; condition < 10; condition++) {
            int c = condition;
            int from = x.node(0, x.leaf(c), -1);
            x.rewrite(from, 1);
            CHECK.due("condition " + c, x::domain, 1 << c);
            x.rewrite(from, 200);
            CHECK.due("0 .. " + c, x::domain, (2 << c) - 1);
        }
        x.rewrite(x.node(0, x.leaf(9), -1), 200);
        CHECK.due("all ten", x::domain, 1023);
    }

    private static void once() {
        Counted x = new Counted();
        int a = x.leaf(0);
        int h = x.hole(0);
        x.rule(x.node(0, h, -1), h, 3);
        x.rule(x.node(1, h, -1), h, 3);
        x.holds(3, 1);
        int whole = x.node(1, Scenes.around(x, 0, a, 2), -1);
        x.rewrite(whole, 200);
        CHECK.due("three rows", () -> x.count(2), 3);
        CHECK.due("by two rules of one condition", x::domain, 8);
    }

    private static void withoutCondition() {
        Counted x = new Counted();
        int a = x.leaf(0);
        int h = x.hole(0);
        x.rule(x.node(0, h, -1), h, -1);
        x.rule(x.node(1, h, -1), h, 9);
        x.holds(9, 1);
        int fa = x.node(0, a, -1);
        x.rewrite(fa, 200);
        CHECK.due("one row", () -> x.count(2), 1);
        CHECK.due("no conditions", x::domain, 0);
        x.rewrite(x.node(1, fa, -1), 200);
        CHECK.due("one of two", x::domain, 512);
    }

    private static void notOthers() {
        Counted x = tenConditions();
        int f4 = x.node(0, x.leaf(4), -1);
        x.rewrite(f4, 2);
        CHECK.due("4 and 3", x::domain, 24);
        x.holds(4, 0);
        x.choose(3, false);
        CHECK.due("answers and choices don't change the rows", x::domain, 24);
        x.normal(x.node(0, x.leaf(2), -1));
        CHECK.due("2, 1 and 0 by normal()", x::domain, 7);
        x.joins(x.node(0, x.leaf(9), -1), 0);
        CHECK.due("joins() keeps no rows", x::domain, 7);
    }

    private static void first200() {
        Counted x = Scenes.counter();
        int c200 = Scenes.countdown(x, 200);
        int c201 = Scenes.countdown(x, 201);
        x.normal(c200);
        CHECK.due("the last rule makes row 199", x::domain, 128 + 256 + 512);
        x.normal(c201);
        CHECK.due("it would make row 200", x::domain, 256 + 512);
        x.rewrite(c201, 200);
        CHECK.due("rewrite() doesn't come to it", x::domain, 256 + 512);
    }

    private static void noRows() {
        Counted x = tenConditions();
        CHECK.due("new", x::domain, 0);
        int f9 = x.node(0, x.leaf(9), -1);
        x.rewrite(f9, 0);
        CHECK.due("no steps", x::domain, 0);
        x.rewrite(f9, 200);
        x.normal(x.leaf(0));
        CHECK.due("no steps again", x::domain, 0);
    }

    private static void notRefused() {
        Counted x = new Counted();
        int h = x.hole(0);
        int f = x.node(0, h, -1);
        int g = x.node(1, h, -1);
        x.rule(f, x.node(0, f, -1), 1);
        x.rule(g, h, 2);
        x.holds(1, 1);
        x.holds(2, 1);
        int a = x.leaf(0);
        int fa = x.node(0, a, -1);
        x.rewrite(x.node(1, a, -1), 200);
        CHECK.due("2", x::domain, 4);
        CHECK.noState("too deep", () -> x.rewrite(fa, 200));
        CHECK.noArgument("201 steps", () -> x.rewrite(fa, 201));
        CHECK.due("as it was", x::domain, 4);
    }
}
