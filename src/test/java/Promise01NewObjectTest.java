/** Promise 1: a new object. */
public final class Promise01NewObjectTest {
    private static final Check CHECK = new Check("Promise 1");

    public static void main(String[] args) {
        CHECK.test("No trees", Promise01NewObjectTest::noTrees);
        CHECK.test("No rules", Promise01NewObjectTest::noRules);
        CHECK.test("No rows", Promise01NewObjectTest::noRows);
        CHECK.test("Answers to conditions are at first open", Promise01NewObjectTest::openAnswers);
        CHECK.test("A new object shares nothing with another", Promise01NewObjectTest::apart);
        CHECK.end();
    }

    private static void noTrees() {
        Counted x = new Counted();
        CHECK.due("count(0)", () -> x.count(0), 0);
        CHECK.noIndex("node(0, 0, -1)", () -> x.node(0, 0, -1));
        CHECK.noIndex("node(6, 0, 0)", () -> x.node(6, 0, 0));
        CHECK.noIndex("rule(0, 0, -1)", () -> x.rule(0, 0, -1));
        CHECK.noIndex("rewrite(0, 0)", () -> x.rewrite(0, 0));
        CHECK.noIndex("normal(0)", () -> x.normal(0));
        CHECK.noIndex("joins(0, 0)", () -> x.joins(0, 0));
        CHECK.noIndex("above(0, 0)", () -> x.above(0, 0));
        CHECK.noIndex("measure(0, 0)", () -> x.measure(0, 0));
        CHECK.noIndex("at(0, 0)", () -> x.at(0, 0));
        CHECK.noIndex("head(0)", () -> x.head(0));
        CHECK.due("the first tree", () -> x.leaf(7), 0);
    }

    private static void noRules() {
        Counted x = new Counted();
        CHECK.due("count(1)", () -> x.count(1), 0);
        CHECK.noIndex("choose(0, true)", () -> x.choose(0, true));
        CHECK.noIndex("choose(0, false)", () -> x.choose(0, false));
        CHECK.noIndex("lessens(0)", () -> x.lessens(0));
        CHECK.noIndex("usable(0)", () -> x.usable(0));
        int f = x.node(0, x.leaf(0), -1);
        CHECK.due("nothing to rewrite by", () -> x.rewrite(f, 200), f);
        CHECK.due("the first rule", () -> x.rule(f, f, -1), 0);
    }

    private static void noRows() {
        Counted x = new Counted();
        CHECK.due("count(2)", () -> x.count(2), 0);
        CHECK.noIndex("row(0, 0)", () -> x.row(0, 0));
        CHECK.due("steps()", x::steps, 0);
        CHECK.no("spent()", x::spent);
        CHECK.due("domain()", x::domain, 0);
    }

    private static void openAnswers() {
        Counted x = new Counted();
        for (int condition = 0; condition < 10; condition++) {
            int c = condition;
            CHECK.no("open is no other answer to " + c, () -> x.holds(c, 2));
        }
    }

    private static void apart() {
        Counted x = new Counted();
        Counted other = new Counted();
        int f = other.node(0, other.leaf(3), -1);
        other.rule(f, f, 0);
        other.holds(0, 1);
        other.rewrite(f, 3);
        CHECK.due("rows of the other", () -> other.count(2), 3);
        for (int what = 0; what < 3; what++) {
            int w = what;
            CHECK.due("count(" + w + ")", () -> x.count(w), 0);
        }
        CHECK.due("steps()", x::steps, 0);
        CHECK.no("spent()", x::spent);
        CHECK.due("domain()", x::domain, 0);
        CHECK.no("its answers are open yet", () -> x.holds(0, 2));
    }
}
