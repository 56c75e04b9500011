/** Promise 10: joins. */
public final class Promise10JoinsTest {
    private static final Check CHECK = new Check("Promise 10");

    public static void main(String[] args) {
        CHECK.test("Whether normal() comes to one tree from both", Promise10JoinsTest::oneTree);
        CHECK.test("normal(): by rules that may be used and lessen", Promise10JoinsTest::rulesOfNormal);
        CHECK.test("normal(): to its end", Promise10JoinsTest::toTheEnd);
        CHECK.test("rows are kept as they were", Promise10JoinsTest::rowsStay);
        CHECK.test("rows are kept as they were: none, and 200", Promise10JoinsTest::noneAnd200);
        CHECK.test("the trees of its runs are made", Promise10JoinsTest::treesAreMade);
        CHECK.test("IndexOutOfBoundsException: no such tree", Promise10JoinsTest::noSuchTree);
        CHECK.test("IllegalArgumentException: one isn't plain", Promise10JoinsTest::notPlain);
        CHECK.test("IllegalStateException: there would be more than 300 trees", Promise10JoinsTest::tooMany);
        CHECK.test("IllegalStateException: one that is too deep", Promise10JoinsTest::tooDeep);
        CHECK.test("Of several the first: IndexOutOfBoundsException", Promise10JoinsTest::indexFirst);
        CHECK.test("Of several the first: IllegalArgumentException", Promise10JoinsTest::argumentFirst);
        CHECK.test("nothing changes: wrong arguments", Promise10JoinsTest::wrongArguments);
        CHECK.end();
    }

    private static void oneTree() {
        Counted x = new Counted();
        int a = x.leaf(0);
        int b = x.leaf(1);
        int h = x.hole(0);
        x.rule(x.node(1, h, -1), x.node(0, h, -1), -1);
        int ga = x.node(1, a, -1);
        int gga = x.node(1, ga, -1);
        int fga = x.node(0, ga, -1);
        CHECK.yes("both come to 0(0(a))", () -> x.joins(gga, fga));
        CHECK.yes("the other way", () -> x.joins(fga, gga));
        CHECK.no("other ends", () -> x.joins(gga, ga));
        CHECK.no("two ends already", () -> x.joins(a, b));
        CHECK.yes("a tree and its end", () -> x.joins(ga, x.node(0, a, -1)));
        CHECK.yes("its end and it", () -> x.joins(x.node(0, a, -1), ga));
        CHECK.yes("a tree and itself", () -> x.joins(gga, gga));
        CHECK.yes("a leaf and itself", () -> x.joins(a, a));
    }

    private static void rulesOfNormal() {
        Counted x = new Counted();
        int a = x.leaf(0);
        int b = x.leaf(1);
        int fa = x.node(0, a, -1);
        int fb = x.node(0, b, -1);
        x.rule(fa, fb, -1);
        CHECK.no("no rule that lessens", () -> x.joins(fa, fb));
        x.rule(fb, fa, 3);
        CHECK.no("it may not be used", () -> x.joins(fa, fb));
        x.holds(3, 1);
        CHECK.yes("now it may", () -> x.joins(fa, fb));
        x.choose(1, false);
        CHECK.no("it isn't chosen", () -> x.joins(fa, fb));
    }

    private static void toTheEnd() {
        Counted x = Scenes.counter();
        int c1 = Scenes.countdown(x, 1);
        int c216 = Scenes.countdown(x, 216);
        CHECK.yes("more than 200 steps of the first", () -> x.joins(c216, c1));
        CHECK.yes("more than 200 steps of the second", () -> x.joins(0, c216));
        CHECK.no("another end", () -> x.joins(c216, 1));
    }

    private static void rowsStay() {
        Counted x = Scenes.counter();
        int c7 = Scenes.countdown(x, 7);
        int c9 = Scenes.countdown(x, 9);
        x.rewrite(c7, 5);
        x.joins(c9, c7);
        String before = Scenes.state(x);
        CHECK.yes("joins", () -> x.joins(c9, c7));
        CHECK.same("the state behind it", Scenes.state(x), before);
        CHECK.due("rows", () -> x.count(2), 5);
        CHECK.due("the first row", () -> x.row(0, 2), c7);
        CHECK.due("steps", x::steps, 5);
        CHECK.yes("spent", x::spent);
        CHECK.due("domain", x::domain, 1 << 8);
        x.normal(c9);
        CHECK.no("another end", () -> x.joins(c7, 3));
        CHECK.due("rows of normal()", () -> x.count(2), 9);
        CHECK.due("steps of normal()", x::steps, 9);
        CHECK.due("its first row", () -> x.row(0, 2), c9);
    }

    private static void noneAnd200() {
        Counted x = Scenes.counter();
        int c216 = Scenes.countdown(x, 216);
        int c3 = Scenes.countdown(x, 3);
        x.joins(c216, c3);
        CHECK.due("no rows yet", () -> x.count(2), 0);
        CHECK.due("no steps yet", x::steps, 0);
        CHECK.due("no conditions yet", x::domain, 0);
        CHECK.no("no rewrite() yet", x::spent);
        x.normal(c216);
        x.joins(c3, 0);
        CHECK.due("200 rows", () -> x.count(2), 200);
        CHECK.due("216 steps", x::steps, 216);
        CHECK.due("the first row", () -> x.row(0, 2), c216);
    }

    private static void treesAreMade() {
        Counted x = new Counted();
        int a = x.leaf(0);
        int b = x.leaf(1);
        int h = x.hole(0);
        x.rule(x.node(1, h, -1), x.node(0, h, -1), -1);
        int ga = x.node(1, a, -1);
        int gb = x.node(1, b, -1);
        int size = x.count(0);
        x.joins(gb, ga);
        CHECK.due("of the first", () -> x.node(0, b, -1), size);
        CHECK.due("then of the second", () -> x.node(0, a, -1), size + 1);
        CHECK.due("trees", () -> x.count(0), size + 2);
    }

    private static void noSuchTree() {
        Counted x = new Counted();
        CHECK.noIndex("none yet", () -> x.joins(0, 0));
        int a = x.leaf(0);
        CHECK.noIndex("a is -1", () -> x.joins(-1, 0));
        CHECK.noIndex("b is -1", () -> x.joins(0, -1));
        CHECK.noIndex("a is 1", () -> x.joins(1, 0));
        CHECK.noIndex("b is 1", () -> x.joins(0, 1));
        CHECK.noIndex("both, and the same", () -> x.joins(1, 1));
        CHECK.noIndex("the lowest int", () -> x.joins(Integer.MIN_VALUE, 0));
        CHECK.noIndex("the highest int", () -> x.joins(0, Integer.MAX_VALUE));
        Scenes.fill(x, a, 300);
        CHECK.yes("tree 299", () -> x.joins(299, 299));
        CHECK.noIndex("a is 300", () -> x.joins(300, 299));
        CHECK.noIndex("b is 300", () -> x.joins(299, 300));
    }

    private static void notPlain() {
        Counted x = new Counted();
        int a = x.leaf(0);
        int h = x.hole(0);
        int f = x.node(0, h, -1);
        int second = x.node(6, a, x.hole(5));
        CHECK.noArgument("the first is a hole", () -> x.joins(h, a));
        CHECK.noArgument("the second is a hole", () -> x.joins(a, h));
        CHECK.noArgument("the first has one", () -> x.joins(f, a));
        CHECK.noArgument("the second has one", () -> x.joins(a, second));
        CHECK.noArgument("both, and the same", () -> x.joins(f, f));
        CHECK.yes("both are plain", () -> x.joins(a, a));
    }

    /** 1(h) becomes 0(h): one new tree each of 1(a) and 1(b). */
    private static Counted twoNewTrees(int size) {
        Counted x = new Counted();
        int a = x.leaf(0);
        int b = x.leaf(1);
        int h = x.hole(0);
        x.rule(x.node(1, h, -1), x.node(0, h, -1), -1);
        x.node(1, a, -1);
        x.node(1, b, -1);
        Scenes.fill(x, a, size);
        return x;
    }

    private static void tooMany() {
        Counted x = twoNewTrees(298);
        int ga = x.node(1, 0, -1);
        int gb = x.node(1, 1, -1);
        CHECK.no("room for both", () -> x.joins(ga, gb));
        CHECK.due("300 trees", () -> x.count(0), 300);
        CHECK.no("once more, without a new tree", () -> x.joins(ga, gb));
        Counted y = twoNewTrees(299);
        y.rewrite(ga, 0);
        CHECK.nothingChanges(y, () -> {
            CHECK.noState("no room for the second", () -> y.joins(ga, gb));
            CHECK.noState("no room for the other second", () -> y.joins(gb, ga));
        });
        CHECK.yes("room for one", () -> y.joins(gb, gb));
        CHECK.due("that one", () -> y.node(0, 1, -1), 299);
        CHECK.nothingChanges(y, () -> CHECK.noState("no room for the first", () -> y.joins(ga, gb)));
    }

    private static Counted deepRule() {
        Counted x = new Counted();
        int h = x.hole(0);
        int a = x.leaf(0);
        x.rule(x.node(8, x.node(0, h, -1), a), Scenes.around(x, 0, h, 3), -1);
        return x;
    }

    private static void tooDeep() {
        Counted x = deepRule();
        int a = x.leaf(0);
        int d28 = Scenes.around(x, 0, a, 28);
        int fine = x.node(8, d28, a);
        int tooDeep = x.node(8, x.node(0, d28, -1), a);
        x.rewrite(fine, 0);
        CHECK.nothingChanges(x, () -> {
            CHECK.noState("the first", () -> x.joins(tooDeep, a));
            CHECK.noState("the second", () -> x.joins(fine, tooDeep));
            CHECK.noState("both, and the same", () -> x.joins(tooDeep, tooDeep));
        });
        CHECK.yes("30 deep", () -> x.joins(fine, fine));
    }

    private static void indexFirst() {
        Counted x = deepRule();
        int h = x.hole(0);
        int a = x.leaf(0);
        int tooDeep = x.node(8, Scenes.around(x, 0, a, 29), a);
        CHECK.noIndex("the first isn't plain, the second isn't there", () -> x.joins(h, tooDeep + 1));
        CHECK.noIndex("the first isn't there, the second isn't plain", () -> x.joins(tooDeep + 1, h));
        CHECK.noIndex("the first is refused, the second isn't there", () -> x.joins(tooDeep, -1));
        CHECK.noIndex("the first isn't there, the second is refused", () -> x.joins(-1, tooDeep));
    }

    private static void argumentFirst() {
        Counted x = deepRule();
        int h = x.hole(0);
        int a = x.leaf(0);
        int tooDeep = x.node(8, Scenes.around(x, 0, a, 29), a);
        CHECK.noState("the run is refused", () -> x.joins(tooDeep, a));
        CHECK.noArgument("the first is refused, the second isn't plain", () -> x.joins(tooDeep, h));
        CHECK.noArgument("the first isn't plain, the second is refused", () -> x.joins(h, tooDeep));
    }

    private static void wrongArguments() {
        Counted x = twoNewTrees(9);
        int ga = x.node(1, 0, -1);
        x.rewrite(ga, 0);
        int hole = x.hole(0);
        CHECK.nothingChanges(x, () -> {
            CHECK.noIndex("the second isn't there", () -> x.joins(ga, 99));
            CHECK.noIndex("the first isn't there", () -> x.joins(-1, ga));
            CHECK.noArgument("the second isn't plain", () -> x.joins(ga, hole));
            CHECK.noArgument("the first isn't plain", () -> x.joins(hole, ga));
        });
        CHECK.yes("no tree was made: 0(a) is new", () -> x.node(0, 0, -1) == x.count(0) - 1);
    }
}
