/** Promise 9: normal. */
public final class Promise09NormalTest {
    private static final Check CHECK = new Check("Promise 9");

    public static void main(String[] args) {
        CHECK.test("by those rules that may be used and lessen", Promise09NormalTest::lesseningRules);
        CHECK.test("to its end: the last tree", Promise09NormalTest::toItsEnd);
        CHECK.test("to its end, where nothing matches", Promise09NormalTest::noSteps);
        CHECK.test("The rows of the run are kept (the first 200)", Promise09NormalTest::first200Rows);
        CHECK.test("The rows of the run are kept, those of the one before not", Promise09NormalTest::rowsAreReplaced);
        CHECK.test("IndexOutOfBoundsException: no such tree", Promise09NormalTest::noSuchTree);
        CHECK.test("IllegalArgumentException: the tree isn't plain", Promise09NormalTest::notPlain);
        CHECK.test("IllegalStateException: one that is too deep", Promise09NormalTest::tooDeep);
        CHECK.test("IllegalStateException: there would be more than 300 trees", Promise09NormalTest::tooMany);
        CHECK.test("nothing changes: wrong arguments", Promise09NormalTest::wrongArguments);
        CHECK.end();
    }

    private static void lesseningRules() {
        Counted x = new Counted();
        int a = x.leaf(0);
        int h = x.hole(0);
        int f = x.node(0, h, -1);
        int g = x.node(1, h, -1);
        x.rule(f, g, -1);
        x.rule(g, f, 5);
        x.rule(f, h, 6);
        x.rule(f, f, -1);
        int ga = x.node(1, a, -1);
        int fa = x.node(0, a, -1);
        CHECK.due("none that may be used lessens", () -> x.normal(fa), fa);
        CHECK.due("no steps", x::steps, 0);
        x.holds(5, 1);
        CHECK.due("rule 0 doesn't lessen", () -> x.normal(ga), fa);
        CHECK.row(x, 0, 1, 0, ga, fa);
        x.holds(6, 1);
        CHECK.due("two rules", () -> x.normal(ga), a);
        CHECK.row(x, 1, 2, 0, fa, a);
        x.choose(1, false);
        CHECK.due("rule 1 isn't chosen", () -> x.normal(ga), ga);
        CHECK.due("rule 2 is", () -> x.normal(fa), a);
        x.holds(6, 0);
        CHECK.due("no to 6", () -> x.normal(fa), fa);
    }

    private static void toItsEnd() {
        Counted x = Scenes.counter();
        for (int rule = 0; rule < 16; rule++) {
            int r = rule;
            CHECK.yes("rule " + r + " lessens", () -> x.lessens(r));
        }
        for (int steps : new int[] {1, 2, 199, 200, 201, 216}) {
            int from = Scenes.countdown(x, steps);
            CHECK.due("the last tree of " + steps, () -> x.normal(from), 0);
            CHECK.due("its steps", x::steps, steps);
        }
    }

    private static void noSteps() {
        Counted x = new Counted();
        int a = x.leaf(0);
        int h = x.hole(0);
        int fa = x.node(0, a, -1);
        CHECK.due("no rules", () -> x.normal(fa), fa);
        x.rule(x.node(1, h, -1), h, -1);
        CHECK.due("a leaf", () -> x.normal(a), a);
        CHECK.due("another node", () -> x.normal(fa), fa);
        CHECK.due("no steps", x::steps, 0);
        CHECK.due("no rows", () -> x.count(2), 0);
    }

    private static void first200Rows() {
        Counted x = Scenes.counter();
        int c199 = Scenes.countdown(x, 199);
        int c200 = Scenes.countdown(x, 200);
        int c201 = Scenes.countdown(x, 201);
        int c216 = Scenes.countdown(x, 216);
        int c1 = Scenes.countdown(x, 1);
        int c2 = Scenes.countdown(x, 2);
        x.normal(c199);
        CHECK.due("rows of 199", () -> x.count(2), 199);
        CHECK.row(x, 198, 15, 0, c1, 0);
        CHECK.noIndex("row 199 of 199", () -> x.row(199, 0));
        x.normal(c200);
        CHECK.due("rows of 200", () -> x.count(2), 200);
        CHECK.row(x, 199, 15, 0, c1, 0);
        x.normal(c201);
        CHECK.due("rows of 201", () -> x.count(2), 200);
        CHECK.row(x, 0, 3, 0, c201, c200);
        CHECK.row(x, 199, 0, 0, c2, c1);
        CHECK.noIndex("row 200 of 201", () -> x.row(200, 0));
        x.normal(c216);
        CHECK.due("rows of 216", () -> x.count(2), 200);
        CHECK.due("the first", () -> x.row(0, 2), c216);
        int c16 = Scenes.countdown(x, 16);
        CHECK.due("the last", () -> x.row(199, 3), c16);
        CHECK.noIndex("row 215 of 216", () -> x.row(215, 0));
    }

    private static void rowsAreReplaced() {
        Counted x = Scenes.counter();
        int c3 = Scenes.countdown(x, 3);
        int c2 = Scenes.countdown(x, 2);
        int c1 = Scenes.countdown(x, 1);
        x.rewrite(c3, 200);
        x.normal(c2);
        CHECK.due("rows", () -> x.count(2), 2);
        CHECK.row(x, 0, 0, 0, c2, c1);
        CHECK.row(x, 1, 15, 0, c1, 0);
        CHECK.noIndex("those of rewrite() are gone", () -> x.row(2, 0));
        x.normal(0);
        CHECK.noIndex("a run without steps keeps none", () -> x.row(0, 0));
    }

    private static void noSuchTree() {
        Counted x = new Counted();
        CHECK.noIndex("none yet", () -> x.normal(0));
        int a = x.leaf(0);
        CHECK.noIndex("tree -1", () -> x.normal(-1));
        CHECK.noIndex("tree 1", () -> x.normal(1));
        CHECK.noIndex("the lowest int", () -> x.normal(Integer.MIN_VALUE));
        CHECK.noIndex("the highest int", () -> x.normal(Integer.MAX_VALUE));
        Scenes.fill(x, a, 300);
        CHECK.due("tree 299", () -> x.normal(299), 299);
        CHECK.noIndex("tree 300", () -> x.normal(300));
    }

    private static void notPlain() {
        Counted x = new Counted();
        int a = x.leaf(0);
        int h = x.hole(0);
        int h5 = x.hole(5);
        CHECK.noArgument("a hole itself", () -> x.normal(h));
        CHECK.noArgument("hole 5 itself", () -> x.normal(h5));
        CHECK.noArgument("a part", () -> x.normal(x.node(0, h, -1)));
        CHECK.noArgument("the first part", () -> x.normal(x.node(6, h, a)));
        CHECK.noArgument("the second part", () -> x.normal(x.node(6, a, h5)));
        CHECK.noArgument("a part of a part", () -> x.normal(x.node(0, x.node(6, a, h5), -1)));
        CHECK.due("a leaf is plain", () -> x.normal(a), a);
        CHECK.due("so is a node without holes", () -> x.head(x.normal(x.node(0, a, -1))), 0);
    }

    private static void tooDeep() {
        Counted x = new Counted();
        int h = x.hole(0);
        int a = x.leaf(0);
        int f = x.node(0, h, -1);
        x.rule(x.node(8, f, a), Scenes.around(x, 0, h, 3), -1);
        CHECK.yes("lighter, but deeper", () -> x.lessens(0));
        int d28 = Scenes.around(x, 0, a, 28);
        int d29 = x.node(0, d28, -1);
        int fine = x.node(8, d28, a);
        int tooDeep = x.node(8, d29, a);
        x.rewrite(fine, 0);
        CHECK.due("30 deep", () -> x.measure(x.normal(fine), 2), 30);
        CHECK.nothingChanges(x, () -> CHECK.noState("31 deep", () -> x.normal(tooDeep)));
        CHECK.yes("spent() is that of rewrite()", x::spent);
    }

    /** 1(h) becomes 0(h): two new trees of 6(1(a), 1(b)), besides 0(a) and 0(b). */
    private static Counted fourNewTrees(int size) {
        Counted x = new Counted();
        int a = x.leaf(0);
        int b = x.leaf(1);
        int h = x.hole(0);
        x.rule(x.node(1, h, -1), x.node(0, h, -1), -1);
        x.node(6, x.node(1, a, -1), x.node(1, b, -1));
        Scenes.fill(x, a, size);
        return x;
    }

    private static void tooMany() {
        Counted x = fourNewTrees(296);
        int whole = x.node(6, x.node(1, 0, -1), x.node(1, 1, -1));
        CHECK.due("the last tree is the 300th", () -> x.normal(whole), 299);
        CHECK.due("once more, without a new tree", () -> x.normal(whole), 299);
        CHECK.due("300 trees", () -> x.count(0), 300);
        Counted y = fourNewTrees(297);
        y.rewrite(whole, 0);
        CHECK.nothingChanges(y, () -> CHECK.noState("301 trees", () -> y.normal(whole)));
        CHECK.due("a tree of the run isn't there", () -> y.node(0, 0, -1), 297);
        CHECK.due("nor another", () -> y.node(6, 297, y.node(1, 1, -1)), 298);
    }

    private static void wrongArguments() {
        Counted x = new Counted();
        int h = x.hole(0);
        int f = x.node(0, h, -1);
        int fa = x.node(0, x.leaf(0), -1);
        x.rule(f, h, 5);
        x.holds(5, 1);
        x.rewrite(fa, 1);
        CHECK.nothingChanges(x, () -> {
            CHECK.noIndex("no such tree", () -> x.normal(4));
            CHECK.noIndex("tree -1", () -> x.normal(-1));
            CHECK.noArgument("a hole", () -> x.normal(h));
            CHECK.noArgument("not plain", () -> x.normal(f));
        });
    }
}
