/** Promise 8: runs of rewrite that are refused, and the last ones that aren't. */
public final class Promise08RefusedTest {
    private static final Check CHECK = new Check("Promise 8");

    public static void main(String[] args) {
        CHECK.test("IllegalStateException: one that is too deep", Promise08RefusedTest::tooDeep);
        CHECK.test("too deep: all trees of its rows", Promise08RefusedTest::tooDeepAround);
        CHECK.test("too deep: what is within the right trees", Promise08RefusedTest::tooDeepWithin);
        CHECK.test("too deep, also on the way", Promise08RefusedTest::tooDeepOnTheWay);
        CHECK.test("IllegalStateException: one that is too heavy", Promise08RefusedTest::tooHeavy);
        CHECK.test("too heavy: all trees of its rows", Promise08RefusedTest::tooHeavyAround);
        CHECK.test("too heavy: the right trees that are put in", Promise08RefusedTest::tooHeavyPutIn);
        CHECK.test("too heavy: what is within the right trees", Promise08RefusedTest::tooHeavyWithin);
        CHECK.test("too heavy, also on the way", Promise08RefusedTest::tooHeavyOnTheWay);
        CHECK.test("more than 300 trees: the right trees, with what is within them", Promise08RefusedTest::tooMany);
        CHECK.test("more than 300 trees: all trees of its rows", Promise08RefusedTest::tooManyAround);
        CHECK.test("more than 300 trees, also on the way", Promise08RefusedTest::tooManyOnTheWay);
        CHECK.test("300 trees: a run that makes none", Promise08RefusedTest::allRoomUsed);
        CHECK.test("nothing changes: wrong arguments", Promise08RefusedTest::wrongArguments);
        CHECK.test("nothing changes: trees of a refused run aren't there", Promise08RefusedTest::treesAreTakenBack);
        CHECK.test("nothing changes: all other trees are there", Promise08RefusedTest::otherTreesStay);
        CHECK.test("nothing changes: rows of 200 steps", Promise08RefusedTest::rowsStay);
        CHECK.end();
    }

    private static void refused(Counted x, int tree) {
        CHECK.nothingChanges(x, () -> CHECK.noState("rewrite(" + tree + ", 200)", () -> x.rewrite(tree, 200)));
    }

    private static void tooDeep() {
        Counted x = new Counted();
        int h = x.hole(0);
        int f = x.node(0, h, -1);
        x.rule(f, x.node(0, f, -1), 2);
        x.holds(2, 1);
        int fa = x.node(0, x.leaf(0), -1);
        x.rewrite(fa, 1);
        refused(x, fa);
        CHECK.due("29 steps come to 30", () -> x.measure(x.rewrite(fa, 29), 2), 30);
        CHECK.noState("30 steps don't", () -> x.rewrite(fa, 30));
        CHECK.due("nor do they count", x::steps, 29);
    }

    private static void tooDeepAround() {
        Counted x = new Counted();
        int h = x.hole(0);
        x.rule(x.node(1, h, -1), x.node(3, x.node(4, h, -1), -1), -1);
        int g = x.node(1, x.leaf(0), -1);
        int d29 = Scenes.around(x, 0, g, 28);
        int d30 = x.node(0, d29, -1);
        CHECK.due("a tree 2 deep is put in, 30 in all", () -> x.measure(x.rewrite(d29, 200), 2), 30);
        refused(x, d30);
    }

    private static void tooDeepWithin() {
        Counted x = new Counted();
        int h = x.hole(0);
        int a = x.leaf(0);
        x.rule(x.node(1, h, -1), Scenes.around(x, 3, h, 4), -1);
        x.rule(x.node(2, h, -1), x.node(6, a, x.node(4, x.node(4, h, -1), -1)), -1);
        int d26 = Scenes.around(x, 0, a, 26);
        int d27 = x.node(0, d26, -1);
        int d28 = x.node(0, d27, -1);
        int d29 = x.node(0, d28, -1);
        int taken = x.node(1, d26, -1);
        int third = x.node(1, d27, -1);
        int second = x.node(1, d28, -1);
        int first = x.node(1, d29, -1);
        int inSecond = x.node(2, d29, -1);
        CHECK.due("4 around 26", () -> x.measure(x.rewrite(taken, 200), 2), 30);
        CHECK.nothingChanges(x, () -> {
            CHECK.noState("4 around 27: itself", () -> x.rewrite(third, 200));
            CHECK.noState("4 around 28: its part", () -> x.rewrite(second, 200));
            CHECK.noState("4 around 29: a part of its part", () -> x.rewrite(first, 200));
            CHECK.noState("2 around 29, in the second part", () -> x.rewrite(inSecond, 200));
        });
        int inner = x.node(1, a, -1);
        int whole = Scenes.around(x, 5, inner, 29);
        CHECK.nothingChanges(x, () -> CHECK.noState("those around it, but the outermost",
                () -> x.rewrite(whole, 200)));
    }

    private static void tooDeepOnTheWay() {
        Counted x = new Counted();
        int h = x.hole(0);
        int g4 = x.node(4, h, -1);
        x.rule(x.node(1, h, -1), x.node(3, g4, -1), -1);
        x.rule(g4, h, -1);
        int d28 = Scenes.around(x, 0, x.leaf(0), 28);
        int d29 = x.node(0, d28, -1);
        int taken = x.node(1, d28, -1);
        int tooDeep = x.node(1, d29, -1);
        CHECK.due("30 on the way, 29 at the end", () -> x.measure(x.rewrite(taken, 200), 2), 29);
        refused(x, tooDeep);
    }

    private static void tooHeavy() {
        Counted x = new Counted();
        int h = x.hole(0);
        x.rule(x.node(1, h, -1), x.node(8, h, h), -1);
        x.rule(x.node(3, h, -1), x.node(7, h, h), 0);
        x.holds(0, 1);
        int w499 = Scenes.heavy(x, 499);
        int w500 = Scenes.heavy(x, 500);
        int to1000 = x.node(1, w499, -1);
        int to1001 = x.node(3, w500, -1);
        CHECK.due("1000", () -> x.measure(x.rewrite(to1000, 200), 0), 1000);
        refused(x, to1001);
    }

    private static void tooHeavyAround() {
        Counted x = new Counted();
        int h = x.hole(0);
        x.rule(x.node(1, h, -1), x.node(7, h, h), -1);
        int g = x.node(1, Scenes.heavy(x, 499), -1);
        int to1000 = x.node(0, g, -1);
        int to1001 = x.node(2, g, -1);
        CHECK.due("999 and a head of weight 1", () -> x.measure(x.rewrite(to1000, 200), 0), 1000);
        refused(x, to1001);
    }

    private static void tooHeavyPutIn() {
        Counted x = new Counted();
        int a = x.leaf(0);
        int h = x.hole(0);
        x.rule(x.node(1, h, -1), x.node(7, h, h), -1);
        int g = x.node(1, Scenes.heavy(x, 500), -1);
        int[] wholes = {x.node(0, g, -1), x.node(6, g, a), x.node(6, a, g), x.node(0, x.node(5, g, -1), -1)};
        x.rewrite(x.node(1, a, -1), 200);
        CHECK.nothingChanges(x, () -> {
            for (int whole : wholes) {
                CHECK.noState("1001 within tree " + whole, () -> x.rewrite(whole, 200));
            }
        });
    }

    private static void tooHeavyWithin() {
        Counted x = new Counted();
        int a = x.leaf(0);
        int h = x.hole(0);
        int twice = x.node(7, h, h);
        int[] rights = {x.node(0, twice, -1), x.node(6, twice, a), x.node(6, a, twice), x.node(6, twice, twice)};
        for (int k = 0; k < rights.length; k++) {
            x.rule(x.node(1 + k, h, -1), rights[k], -1);
        }
        int w500 = Scenes.heavy(x, 500);
        int[] trees = new int[rights.length];
        for (int k = 0; k < trees.length; k++) {
            trees[k] = x.node(1 + k, w500, -1);
        }
        x.rewrite(x.node(1, a, -1), 200);
        CHECK.nothingChanges(x, () -> {
            for (int k = 0; k < trees.length; k++) {
                int n = k;
                CHECK.noState("1001 within the right tree of rule " + n, () -> x.rewrite(trees[n], 200));
            }
        });
    }

    private static void tooHeavyOnTheWay() {
        Counted x = new Counted();
        int h = x.hole(0);
        int to1000 = x.node(11, h, h);
        int to1001 = x.node(9, h, h);
        x.rule(x.node(1, h, -1), to1000, -1);
        x.rule(to1000, h, -1);
        x.rule(x.node(3, h, -1), to1001, -1);
        x.rule(to1001, h, -1);
        int w499 = Scenes.heavy(x, 499);
        int w500 = Scenes.heavy(x, 500);
        int taken = x.node(1, w499, -1);
        int tooHeavy = x.node(3, w500, -1);
        CHECK.due("1000 on the way, 499 at the end", () -> x.rewrite(taken, 200), w499);
        refused(x, tooHeavy);
    }

    /** 0(h) becomes 9(3(h), 4(h)): three new trees of 0(a); 1(0(a)) has one around it. */
    private static Counted threeNewTrees(int size) {
        Counted x = new Counted();
        int a = x.leaf(0);
        int h = x.hole(0);
        x.rule(x.node(0, h, -1), x.node(9, x.node(3, h, -1), x.node(4, h, -1)), -1);
        x.node(1, x.node(0, a, -1), -1);
        Scenes.fill(x, a, size);
        return x;
    }

    private static void tooMany() {
        Counted x = threeNewTrees(297);
        int fa = x.node(0, 0, -1);
        CHECK.due("the last tree is the 300th", () -> x.rewrite(fa, 200), 299);
        CHECK.due("300 trees", () -> x.count(0), 300);
        Counted y = threeNewTrees(298);
        refused(y, fa);
        CHECK.due("what was within is not there", () -> y.node(3, 0, -1), 298);
    }

    private static void tooManyAround() {
        Counted x = threeNewTrees(296);
        int whole = x.node(1, x.node(0, 0, -1), -1);
        CHECK.due("the last tree is the 300th", () -> x.rewrite(whole, 200), 299);
        Counted y = threeNewTrees(297);
        refused(y, whole);
        CHECK.due("what was put in is not there", () -> y.rewrite(y.at(whole, 1), 200), 299);
    }

    /** 1(h) becomes 3(4(h)), then 3(h): 4(a), 3(4(a)) and 3(a) are new trees of 1(a). */
    private static Counted threeOnTheWay(int size) {
        Counted x = new Counted();
        int a = x.leaf(0);
        int h = x.hole(0);
        int g4 = x.node(4, h, -1);
        x.rule(x.node(1, h, -1), x.node(3, g4, -1), -1);
        x.rule(g4, h, -1);
        x.node(1, a, -1);
        Scenes.fill(x, a, size);
        return x;
    }

    private static void tooManyOnTheWay() {
        Counted x = threeOnTheWay(297);
        int g = x.node(1, 0, -1);
        CHECK.due("the last tree is the 300th", () -> x.rewrite(g, 200), 299);
        Counted y = threeOnTheWay(298);
        refused(y, g);
        CHECK.due("one step has room", () -> y.rewrite(g, 1), 299);
        CHECK.due("300 trees", () -> y.count(0), 300);
    }

    private static void allRoomUsed() {
        Counted x = threeOnTheWay(297);
        int g = x.node(1, 0, -1);
        int last = x.rewrite(g, 200);
        CHECK.due("once more, without a new tree", () -> x.rewrite(g, 200), last);
        CHECK.due("its rows", () -> x.count(2), 2);
        CHECK.due("no step of a leaf", () -> x.rewrite(0, 200), 0);
        CHECK.due("no step of the last tree", () -> x.rewrite(299, 200), 299);
    }

    private static void wrongArguments() {
        Counted x = new Counted();
        int h = x.hole(0);
        int f = x.node(0, h, -1);
        int fa = x.node(0, x.leaf(0), -1);
        x.rule(f, f, 5);
        x.holds(5, 1);
        x.rewrite(fa, 2);
        CHECK.nothingChanges(x, () -> {
            CHECK.noIndex("no such tree", () -> x.rewrite(4, 1));
            CHECK.noIndex("tree -1", () -> x.rewrite(-1, 1));
            CHECK.noArgument("not plain", () -> x.rewrite(f, 1));
            CHECK.noArgument("-1 steps", () -> x.rewrite(fa, -1));
            CHECK.noArgument("201 steps", () -> x.rewrite(fa, 201));
        });
        CHECK.yes("it had to stop", x::spent);
    }

    private static void treesAreTakenBack() {
        Counted x = new Counted();
        int h = x.hole(0);
        int a = x.leaf(0);
        int f = x.node(0, h, -1);
        x.rule(f, x.node(0, f, -1), -1);
        int fa = x.node(0, a, -1);
        int size = x.count(0);
        refused(x, fa);
        CHECK.noIndex("no tree more", () -> x.head(size));
        CHECK.due("another tree gets the next number", () -> x.leaf(9), size);
        CHECK.due("then one that the run had made", () -> x.node(0, fa, -1), size + 1);
        CHECK.due("which is one", () -> x.node(0, fa, -1), size + 1);
        CHECK.due("a leaf that was there is there", () -> x.leaf(0), a);
        CHECK.due("a node that was there is there", () -> x.node(0, h, -1), f);
        CHECK.due("the deepest run", () -> x.rewrite(fa, 29), size + 29);
        refused(x, fa);
        CHECK.due("trees", () -> x.count(0), size + 30);
    }

    private static void otherTreesStay() {
        Counted x = new Counted();
        for (int name = 0; name < 14; name++) {
            x.leaf(name);
        }
        int h = x.hole(0);
        int f = x.node(0, h, -1);
        x.rule(f, x.node(0, f, -1), -1);
        int fa = x.node(0, 0, -1);
        int pairs = fa + 1;
        for (int k = 0; k < 196; k++) {
            x.node(6, k / 14, k % 14);
        }
        refused(x, fa);
        for (int k = 0; k < 196; k++) {
            int n = k;
            CHECK.due("the pair " + n, () -> x.node(6, n / 14, n % 14), pairs + n);
        }
    }

    private static void rowsStay() {
        Counted x = Scenes.counter();
        int c200 = Scenes.countdown(x, 200);
        x.rewrite(c200, 200);
        int size = x.count(0);
        int c216 = Scenes.countdown(x, 216);
        CHECK.due("new trees for 216", () -> x.count(0), size + 2);
        x.leaf(6);
        Scenes.fill(x, 6, 300);
        refused(x, c216);
        CHECK.row(x, 0, x.row(0, 0), 0, c200, x.row(1, 2));
        CHECK.row(x, 199, 15, 0, x.row(198, 3), 0);
    }
}
