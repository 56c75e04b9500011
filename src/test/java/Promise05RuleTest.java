/** Promise 5: rule. */
public final class Promise05RuleTest {
    private static final Check CHECK = new Check("Promise 5");

    public static void main(String[] args) {
        CHECK.test("A rule: its number", Promise05RuleTest::numbers);
        CHECK.test("-1 if there are 16", Promise05RuleTest::sixteen);
        CHECK.test("a left tree that is no leaf or hole", Promise05RuleTest::leftTrees);
        CHECK.test("a right tree all of whose holes stand in the left one", Promise05RuleTest::rightTrees);
        CHECK.test("a CONDITION, 0 .. 9, or none (-1)", Promise05RuleTest::conditions);
        CHECK.test("new ones are CHOSEN", Promise05RuleTest::chosen);
        CHECK.test("IndexOutOfBoundsException: no such tree", Promise05RuleTest::missingTrees);
        CHECK.test("Of several the one that stands first behind throws", Promise05RuleTest::indexFirst);
        CHECK.test("IllegalArgumentException: it can't be one, also if there are 16", Promise05RuleTest::wrongWith16);
        CHECK.test("A rule makes no tree", Promise05RuleTest::allTreesUsed);
        CHECK.test("nothing changes", Promise05RuleTest::refused);
        CHECK.end();
    }

    private static void numbers() {
        Counted x = new Counted();
        int a = x.leaf(0);
        int h = x.hole(0);
        int f = x.node(0, h, -1);
        CHECK.due("the first", () -> x.rule(f, h, -1), 0);
        CHECK.due("the next", () -> x.rule(f, a, 0), 1);
        CHECK.noArgument("a refused one", () -> x.rule(h, h, -1));
        CHECK.due("the next behind a refused one", () -> x.rule(f, f, -1), 2);
        CHECK.due("the same as the first is another one", () -> x.rule(f, h, -1), 3);
        CHECK.due("rules", () -> x.count(1), 4);
    }

    private static void sixteen() {
        Counted x = new Counted();
        int a = x.leaf(0);
        int f = x.node(0, a, -1);
        for (int n = 0; n < 16; n++) {
            CHECK.due("rule " + n, () -> x.rule(f, f, -1), n);
        }
        CHECK.nothingChanges(x, () -> {
            CHECK.due("a 17th", () -> x.rule(f, a, -1), -1);
            CHECK.due("once more", () -> x.rule(f, a, -1), -1);
        });
        CHECK.due("rules", () -> x.count(1), 16);
        CHECK.noIndex("there is no rule 16", () -> x.usable(16));
        CHECK.due("the 17th rewrites nothing", () -> x.normal(f), f);
    }

    private static void leftTrees() {
        Counted x = new Counted();
        int a = x.leaf(0);
        int a19 = x.leaf(19);
        int h = x.hole(0);
        int h5 = x.hole(5);
        CHECK.noArgument("leaf 0", () -> x.rule(a, a, -1));
        CHECK.noArgument("leaf 19", () -> x.rule(a19, a, -1));
        CHECK.noArgument("hole 0", () -> x.rule(h, h, -1));
        CHECK.noArgument("hole 0, a leaf to the right", () -> x.rule(h, a, -1));
        CHECK.noArgument("hole 5", () -> x.rule(h5, a, -1));
        for (int head = 0; head < 12; head++) {
            int n = head;
            int node = x.node(n, a, n < 6 ? -1 : a);
            CHECK.due("a node of head " + n, () -> x.rule(node, a, -1), n);
        }
    }

    private static void rightTrees() {
        Counted x = new Counted();
        int[] holes = new int[6];
        int all = x.hole(0);
        for (int name = 0; name < 6; name++) {
            holes[name] = x.hole(name);
            all = x.node(6, all, holes[name]);
        }
        int left = all;
        int five = x.at(left, 1);
        int leaf = x.leaf(0);
        int plain = x.node(0, leaf, -1);
        CHECK.due("all six in both", () -> x.rule(left, left, -1), 0);
        CHECK.due("five of six", () -> x.rule(left, five, -1), 1);
        CHECK.noArgument("six of five", () -> x.rule(five, left, -1));
        CHECK.due("hole 4 of five", () -> x.rule(five, holes[4], -1), 2);
        CHECK.noArgument("hole 5 of five", () -> x.rule(five, holes[5], -1));
        CHECK.due("no holes, a leaf", () -> x.rule(five, leaf, -1), 3);
        CHECK.due("plain trees", () -> x.rule(plain, plain, -1), 4);
        CHECK.noArgument("hole 0 of a plain tree", () -> x.rule(plain, holes[0], -1));
        CHECK.noArgument("a hole deep within", () -> x.rule(plain, x.node(6, plain, x.node(0, holes[0], -1)), -1));
        int f = x.node(0, holes[0], -1);
        CHECK.due("more often to the right", () -> x.rule(f, x.node(6, f, f), -1), 5);
        CHECK.due("rules", () -> x.count(1), 6);
    }

    private static void conditions() {
        Counted x = new Counted();
        int f = x.node(0, x.leaf(0), -1);
        for (int condition = -1; condition < 10; condition++) {
            int c = condition;
            CHECK.due("condition " + c, () -> x.rule(f, f, c), c + 1);
        }
        CHECK.noArgument("condition -2", () -> x.rule(f, f, -2));
        CHECK.noArgument("condition 10", () -> x.rule(f, f, 10));
        CHECK.noArgument("the lowest int", () -> x.rule(f, f, Integer.MIN_VALUE));
        CHECK.noArgument("the highest int", () -> x.rule(f, f, Integer.MAX_VALUE));
        CHECK.yes("none: it may be used", () -> x.usable(0));
        CHECK.no("condition 0 is open", () -> x.usable(1));
        CHECK.no("condition 9 is open", () -> x.usable(10));
        x.holds(9, 1);
        CHECK.yes("condition 9 is answered", () -> x.usable(10));
        CHECK.no("condition 8 isn't", () -> x.usable(9));
    }

    private static void chosen() {
        Counted x = new Counted();
        int f = x.node(0, x.leaf(0), -1);
        for (int rule = 0; rule < 16; rule++) {
            int r = rule;
            x.rule(f, f, -1);
            CHECK.yes("rule " + r + " may be used", () -> x.usable(r));
            CHECK.no("to choose it isn't new", () -> x.choose(r, true));
        }
    }

    private static void missingTrees() {
        Counted x = new Counted();
        int a = x.leaf(0);
        int f = x.node(0, a, -1);
        CHECK.noIndex("left -1", () -> x.rule(-1, a, -1));
        CHECK.noIndex("left 2", () -> x.rule(2, a, -1));
        CHECK.noIndex("right -1", () -> x.rule(f, -1, -1));
        CHECK.noIndex("right 2", () -> x.rule(f, 2, -1));
        CHECK.noIndex("left the lowest int", () -> x.rule(Integer.MIN_VALUE, a, -1));
        CHECK.noIndex("right the highest int", () -> x.rule(f, Integer.MAX_VALUE, -1));
        CHECK.due("the last tree, left and right", () -> x.rule(1, 1, -1), 0);
        CHECK.due("the first tree", () -> x.rule(1, 0, -1), 1);
    }

    private static void indexFirst() {
        Counted x = new Counted();
        int a = x.leaf(0);
        CHECK.noIndex("a leaf to the left, none to the right", () -> x.rule(a, 1, -1));
        CHECK.noIndex("none to the left, condition 10", () -> x.rule(1, a, 10));
        CHECK.noIndex("none to the right, condition -2", () -> x.rule(a, -1, -2));
    }

    private static void wrongWith16() {
        Counted x = new Counted();
        int a = x.leaf(0);
        int f = x.node(0, a, -1);
        for (int n = 0; n < 16; n++) {
            x.rule(f, a, -1);
        }
        CHECK.noArgument("a leaf to the left", () -> x.rule(a, a, -1));
        CHECK.noArgument("condition 10", () -> x.rule(f, a, 10));
        CHECK.noIndex("no such tree", () -> x.rule(f, 2, -1));
        CHECK.due("one that could be one", () -> x.rule(f, a, 9), -1);
    }

    private static void allTreesUsed() {
        Counted x = new Counted();
        int a = x.leaf(0);
        Scenes.fill(x, a, 300);
        CHECK.due("of the last tree", () -> x.rule(299, 299, -1), 0);
        CHECK.noIndex("of tree 300", () -> x.rule(300, 299, -1));
        CHECK.noIndex("to tree 300", () -> x.rule(299, 300, -1));
    }

    private static void refused() {
        Counted x = new Counted();
        int a = x.leaf(0);
        int h = x.hole(0);
        int f = x.node(0, a, -1);
        x.rule(f, a, -1);
        x.rewrite(f, 1);
        CHECK.nothingChanges(x, () -> {
            CHECK.noIndex("no such tree", () -> x.rule(f, 3, -1));
            CHECK.noArgument("a leaf", () -> x.rule(a, a, -1));
            CHECK.noArgument("a hole that isn't there", () -> x.rule(f, h, -1));
            CHECK.noArgument("condition 10", () -> x.rule(f, a, 10));
        });
    }
}
