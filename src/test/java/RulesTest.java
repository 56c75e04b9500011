/** Promises 5 to 7 and 15 to 17: rules, conditions, choice, and the order. */
public final class RulesTest {
    private static final Check CHECK = new Check("RulesTest");

    public static void main(String[] args) {
        rules();
        sixteenRules();
        conditions();
        choice();
        lessening();
        orderOfLeavesAndHoles();
        orderOfNodes();
        orderAsksForHoles();
        CHECK.end();
    }

    private static void rules() {
        RuleSteps x = new RuleSteps();
        int a = x.leaf(0);
        int h = x.hole(0);
        int g = x.hole(1);
        int f = x.node(0, h, -1);
        int p = x.node(6, h, g);
        CHECK.due("a rule", () -> x.rule(p, f, -1), 0);
        CHECK.due("the same once more is another one", () -> x.rule(p, f, -1), 1);
        CHECK.due("the right tree may be a hole", () -> x.rule(f, h, 0), 2);
        CHECK.due("the right tree may be a leaf", () -> x.rule(f, a, 9), 3);
        CHECK.due("both may be the same", () -> x.rule(f, f, -1), 4);
        CHECK.noArgument("a leaf to the left", () -> x.rule(a, a, -1));
        CHECK.noArgument("a hole to the left", () -> x.rule(h, h, -1));
        CHECK.noArgument("a hole that isn't in the left one", () -> x.rule(f, p, -1));
        CHECK.noArgument("another hole", () -> x.rule(f, g, -1));
        CHECK.noArgument("condition -2", () -> x.rule(f, h, -2));
        CHECK.noArgument("condition 10", () -> x.rule(f, h, 10));
        CHECK.noIndex("no such left tree", () -> x.rule(5, h, -1));
        CHECK.noIndex("no such right tree", () -> x.rule(f, 5, -1));
        CHECK.noIndex("left tree -1", () -> x.rule(-1, h, -1));
        CHECK.noIndex("right tree -1", () -> x.rule(f, -1, -1));
        CHECK.noIndex("no such tree comes first", () -> x.rule(a, 5, 10));
        CHECK.due("five rules", () -> x.count(1), 5);
    }

    private static void sixteenRules() {
        RuleSteps x = new RuleSteps();
        int f = x.node(0, x.leaf(0), -1);
        for (int n = 0; n < 16; n++) {
            CHECK.due("rule " + n, () -> x.rule(f, 0, -1), n);
        }
        CHECK.due("one more", () -> x.rule(f, 0, -1), -1);
        CHECK.due("16 rules", () -> x.count(1), 16);
        CHECK.noArgument("one more that can't be one", () -> x.rule(0, 0, -1));
        CHECK.noIndex("one more without a tree", () -> x.rule(f, 2, -1));
        CHECK.holds("the last may be used", x.usable(15));
        CHECK.noIndex("there is no rule 16", () -> Check.of(x.usable(16)));
    }

    private static void conditions() {
        RuleSteps x = new RuleSteps();
        int f = x.node(0, x.leaf(0), -1);
        x.rule(f, 0, -1);
        for (int condition = 0; condition < 10; condition++) {
            int c = condition;
            int rule = x.rule(f, 0, c);
            CHECK.fails("open at first", x.usable(rule));
            CHECK.fails("open is no other answer", x.holds(c, 2));
            CHECK.holds("yes is another one", x.holds(c, 1));
            CHECK.holds("yes", x.usable(rule));
            CHECK.fails("yes again", x.holds(c, 1));
            CHECK.holds("no is another one", x.holds(c, 0));
            CHECK.fails("no", x.usable(rule));
            CHECK.fails("no again", x.holds(c, 0));
            CHECK.holds("open is another one now", x.holds(c, 2));
            CHECK.fails("open", x.usable(rule));
        }
        CHECK.holds("without a condition", x.usable(0));
        CHECK.noArgument("condition -1", () -> Check.of(x.holds(-1, 1)));
        CHECK.noArgument("condition 10", () -> Check.of(x.holds(10, 1)));
        CHECK.noArgument("answer -1", () -> Check.of(x.holds(0, -1)));
        CHECK.noArgument("answer 3", () -> Check.of(x.holds(0, 3)));
    }

    private static void choice() {
        RuleSteps x = new RuleSteps();
        int f = x.node(0, x.leaf(0), -1);
        x.rule(f, 0, -1);
        x.rule(f, 0, 3);
        CHECK.fails("new ones are chosen", x.choose(0, true));
        CHECK.holds("not chosen is new", x.choose(0, false));
        CHECK.fails("not chosen again", x.choose(0, false));
        CHECK.fails("may not be used", x.usable(0));
        CHECK.due("isn't used", () -> x.rewrite(f, 200), f);
        CHECK.holds("chosen is new", x.choose(0, true));
        CHECK.holds("may be used", x.usable(0));
        x.choose(1, false);
        x.holds(3, 1);
        CHECK.fails("yes alone isn't enough", x.usable(1));
        x.choose(1, true);
        CHECK.holds("yes, and chosen", x.usable(1));
        CHECK.noIndex("choose(2, ..)", () -> Check.of(x.choose(2, true)));
        CHECK.noIndex("choose(-1, ..)", () -> Check.of(x.choose(-1, false)));
        CHECK.noIndex("usable(2)", () -> Check.of(x.usable(2)));
        CHECK.noIndex("usable(-1)", () -> Check.of(x.usable(-1)));
    }

    private static void lessening() {
        RuleSteps x = new RuleSteps();
        int h = x.hole(0);
        int f = x.node(0, h, -1);
        int g = x.node(1, h, -1);
        int p = x.node(6, h, h);
        int q = x.node(11, h, x.hole(1));
        x.rule(g, f, -1);
        x.rule(f, g, -1);
        x.rule(p, h, 2);
        x.rule(f, p, -1);
        x.rule(q, p, -1);
        x.rule(f, f, -1);
        long[] due = {1, 0, 1, 0, 0, 0};
        for (int rule = 0; rule < due.length; rule++) {
            int r = rule;
            CHECK.due("lessens(" + r + ")", () -> Check.of(x.lessens(r)), due[r]);
        }
        x.choose(0, false);
        CHECK.holds("whether it is chosen doesn't matter", x.lessens(0));
        CHECK.noIndex("lessens(6)", () -> Check.of(x.lessens(6)));
        CHECK.noIndex("lessens(-1)", () -> Check.of(x.lessens(-1)));
    }

    private static void orderOfLeavesAndHoles() {
        RuleSteps x = new RuleSteps();
        int a = x.leaf(0);
        int b = x.leaf(1);
        int h = x.hole(0);
        int g = x.hole(1);
        int f = x.node(0, a, -1);
        CHECK.holds("the higher name", x.above(b, a));
        CHECK.fails("the lower name", x.above(a, b));
        CHECK.fails("itself", x.above(a, a));
        CHECK.fails("a hole and itself", x.above(h, h));
        CHECK.fails("a hole and another", x.above(g, h));
        CHECK.fails("a hole and a leaf", x.above(h, a));
        CHECK.fails("a leaf and a hole", x.above(b, h));
        CHECK.holds("a node and a leaf", x.above(f, b));
        CHECK.fails("a leaf and a node", x.above(b, f));
        CHECK.noIndex("above(5, 0)", () -> Check.of(x.above(5, 0)));
        CHECK.noIndex("above(0, 5)", () -> Check.of(x.above(0, 5)));
        CHECK.noIndex("above(-1, 0)", () -> Check.of(x.above(-1, 0)));
        CHECK.noIndex("above(0, -1)", () -> Check.of(x.above(0, -1)));
    }

    private static void orderOfNodes() {
        RuleSteps x = new RuleSteps();
        int a = x.leaf(0);
        int b = x.leaf(1);
        int high = x.node(1, a, -1);
        int low = x.node(0, b, -1);
        CHECK.holds("the higher head", x.above(high, low));
        CHECK.fails("the lower head", x.above(low, high));
        CHECK.holds("heavier by its head", x.above(x.node(2, a, -1), x.node(3, a, -1)));
        CHECK.fails("lighter by its head", x.above(x.node(3, a, -1), x.node(2, a, -1)));
        int ab = x.node(6, a, b);
        int ba = x.node(6, b, a);
        CHECK.holds("the first part decides", x.above(ba, ab));
        CHECK.fails("the first part decides, the other way", x.above(ab, ba));
        CHECK.holds("the second part, if the first is the same", x.above(x.node(6, b, b), ba));
        CHECK.fails("the second part, the other way", x.above(ba, x.node(6, b, b)));
        CHECK.holds("weight before heads", x.above(x.node(0, high, -1), x.node(1, b, -1)));
        CHECK.fails("weight before heads, the other way", x.above(x.node(1, b, -1), x.node(0, high, -1)));
        CHECK.holds("heads before parts", x.above(x.node(7, a, a), x.node(6, b, b)));
        CHECK.holds("one part or two: the head", x.above(ab, x.node(0, low, -1)));
        CHECK.holds("a lighter first part loses",
                x.above(x.node(6, low, a), x.node(6, a, high)) && !x.above(x.node(6, a, high), x.node(6, low, a)));
    }

    private static void orderAsksForHoles() {
        RuleSteps x = new RuleSteps();
        int h = x.hole(0);
        int g = x.hole(1);
        int a = x.leaf(0);
        int hh = x.node(6, h, h);
        CHECK.fails("heavier, but a hole stands less often", x.above(x.node(8, h, a), hh));
        CHECK.holds("as often", x.above(x.node(8, h, h), hh));
        CHECK.holds("more often", x.above(x.node(8, h, h), x.node(6, h, a)));
        CHECK.fails("another hole", x.above(x.node(8, g, g), x.node(6, h, a)));
        CHECK.fails("the first parts that differ are holes", x.above(x.node(6, h, g), x.node(6, g, h)));
        CHECK.fails("a part lacks a hole",
                x.above(x.node(6, x.node(1, a, -1), h), x.node(6, x.node(0, h, -1), a)));
        CHECK.fails("a hole first, a leaf first", x.above(x.node(6, h, a), x.node(6, a, h)));
    }
}
