/** Promises 9 and 10: normal and joins. */
public final class NormalTest {
    private static final Check CHECK = new Check("NormalTest");

    public static void main(String[] args) {
        onlyLesseningRules();
        wrongArguments();
        moreThan200Steps();
        refusedByDepth();
        joining();
        refusedJoins();
        CHECK.end();
    }

    private static void onlyLesseningRules() {
        RuleSteps x = new RuleSteps();
        int a = x.leaf(0);
        int h = x.hole(0);
        int f = x.node(0, h, -1);
        int g = x.node(1, h, -1);
        x.rule(f, g, -1);
        x.rule(g, f, 5);
        x.rule(f, h, 6);
        int ga = x.node(1, a, -1);
        int fa = x.node(0, a, -1);
        CHECK.due("no rule that may be used lessens", () -> x.normal(fa), fa);
        CHECK.due("no steps", x::steps, 0);
        x.holds(5, 1);
        CHECK.due("rule 0 isn't used", () -> x.normal(ga), fa);
        CHECK.due("one step", x::steps, 1);
        CHECK.due("by rule 1", () -> x.row(0, 0), 1);
        CHECK.due("its condition", x::domain, 32);
        x.holds(6, 1);
        CHECK.due("two rules", () -> x.normal(ga), a);
        CHECK.due("two steps", x::steps, 2);
        CHECK.due("two rows", () -> x.count(2), 2);
        CHECK.due("by rule 2 then", () -> x.row(1, 0), 2);
        CHECK.due("their conditions", x::domain, 96);
        x.choose(1, false);
        CHECK.due("rule 1 isn't chosen", () -> x.normal(ga), ga);
        CHECK.due("the rows are gone", () -> x.count(2), 0);
        CHECK.fails("no rewrite() yet", x.spent());
    }

    private static void wrongArguments() {
        RuleSteps x = new RuleSteps();
        int h = x.hole(0);
        int a = x.leaf(0);
        int f = x.node(0, h, -1);
        CHECK.noArgument("normal of a hole", () -> x.normal(h));
        CHECK.noArgument("normal of a tree with a hole", () -> x.normal(f));
        CHECK.noIndex("normal(3)", () -> x.normal(3));
        CHECK.noIndex("normal(-1)", () -> x.normal(-1));
        CHECK.noIndex("joins(0, 3)", () -> Check.of(x.joins(h, 3)));
        CHECK.noIndex("joins(3, 0)", () -> Check.of(x.joins(3, h)));
        CHECK.noIndex("joins(-1, 1)", () -> Check.of(x.joins(-1, a)));
        CHECK.noIndex("joins(1, -1)", () -> Check.of(x.joins(a, -1)));
        CHECK.noArgument("the first isn't plain", () -> Check.of(x.joins(f, a)));
        CHECK.noArgument("the second isn't plain", () -> Check.of(x.joins(a, f)));
        CHECK.noArgument("neither is plain", () -> Check.of(x.joins(f, f)));
    }

    /** Counts down three digits, 0 to 5, that stand in q(r(x, y), z); the last rule ends it. */
    private static RuleSteps counter() {
        RuleSteps x = new RuleSteps();
        for (int digit = 0; digit < 6; digit++) {
            x.leaf(digit);
        }
        int h = x.hole(0);
        for (int d = 1; d < 6; d++) {
            x.rule(x.node(7, h, d), x.node(7, h, d - 1), -1);
            x.rule(x.node(7, x.node(6, h, d), 0), x.node(7, x.node(6, h, d - 1), 5), 8);
            x.rule(x.node(7, x.node(6, d, 0), 0), x.node(7, x.node(6, d - 1, 5), 5), 9);
        }
        x.rule(x.node(7, x.node(6, 0, 0), 0), 0, 7);
        for (int condition = 7; condition < 10; condition++) {
            x.holds(condition, 1);
        }
        return x;
    }

    private static void moreThan200Steps() {
        RuleSteps x = counter();
        int top = x.node(7, x.node(6, 5, 5), 5);
        for (int rule = 0; rule < 16; rule++) {
            CHECK.holds("rule " + rule + " lessens", x.lessens(rule));
        }
        CHECK.due("the last tree", () -> x.normal(top), 0);
        CHECK.due("all steps count", x::steps, 216);
        CHECK.due("the first 200 rows are kept", () -> x.count(2), 200);
        CHECK.due("the first one", () -> x.row(0, 2), top);
        CHECK.noIndex("row 200", () -> x.row(200, 0));
        CHECK.due("the conditions of those alone", x::domain, 768);
        int kept = x.row(199, 3);
        CHECK.due("rewrite comes as far", () -> x.rewrite(top, 200), kept);
        CHECK.holds("and had to stop", x.spent());
        CHECK.due("the rest", () -> x.normal(kept), 0);
        CHECK.due("its steps", x::steps, 16);
        CHECK.due("its conditions", x::domain, 384);
        CHECK.holds("both come to the same", x.joins(top, kept));
    }

    private static void refusedByDepth() {
        RuleSteps x = new RuleSteps();
        int h = x.hole(0);
        int a = x.leaf(0);
        int left = x.node(8, x.node(0, h, -1), a);
        int right = x.node(0, x.node(0, x.node(0, h, -1), -1), -1);
        x.rule(left, right, -1);
        CHECK.holds("lighter, but deeper", x.lessens(0));
        int tree = a;
        for (int n = 0; n < 29; n++) {
            tree = x.node(0, tree, -1);
        }
        int deep = x.node(8, tree, a);
        int fine = x.node(8, x.at(tree, 1), a);
        CHECK.due("30 deep is fine", () -> x.measure(x.normal(fine), 2), 30);
        int size = x.count(0);
        CHECK.noState("31 deep isn't", () -> x.normal(deep));
        CHECK.due("trees as they were", () -> x.count(0), size);
        CHECK.due("steps as they were", x::steps, 1);
        CHECK.due("rows as they were", () -> x.row(0, 2), fine);
        CHECK.noState("nor to join", () -> Check.of(x.joins(fine, deep)));
        CHECK.noState("nor the other way", () -> Check.of(x.joins(deep, fine)));
    }

    private static void joining() {
        RuleSteps x = new RuleSteps();
        int a = x.leaf(0);
        int b = x.leaf(1);
        int h = x.hole(0);
        x.rule(x.node(1, h, -1), x.node(0, h, -1), 1);
        int g = x.node(1, a, -1);
        int gg = x.node(1, g, -1);
        int f = x.node(0, a, -1);
        int fg = x.node(0, g, -1);
        CHECK.fails("the rule may not be used", x.joins(gg, fg));
        CHECK.due("no trees are made", () -> x.count(0), 9);
        x.holds(1, 1);
        x.rewrite(g, 0);
        x.normal(g);
        CHECK.holds("both come to ff", x.joins(gg, fg));
        CHECK.due("the trees of its runs are there", () -> x.count(0), 11);
        CHECK.due("made by the run of the first: g(fa)", () -> x.head(9), 1);
        CHECK.due("and f(fa)", () -> x.head(10), 0);
        CHECK.fails("other ends", x.joins(gg, g));
        CHECK.fails("two ends already", x.joins(a, b));
        CHECK.holds("a tree and its end", x.joins(f, g));
        CHECK.holds("a tree and itself", x.joins(gg, gg));
        CHECK.due("steps are those of normal()", x::steps, 1);
        CHECK.due("rows are those of normal()", () -> x.count(2), 1);
        CHECK.due("the row", () -> x.row(0, 2), g);
        CHECK.due("domain of it", x::domain, 2);
        CHECK.holds("spent is that of rewrite()", x.spent());
    }

    private static void refusedJoins() {
        RuleSteps x = new RuleSteps();
        int h = x.hole(0);
        x.rule(x.node(1, h, -1), x.node(0, h, -1), -1);
        int ga = x.node(1, x.leaf(0), -1);
        int gb = x.node(1, x.leaf(1), -1);
        for (int k = 0; x.count(0) < 299; k++) {
            x.node(9 + k / 200, x.leaf(2 + k / 15 % 15), x.leaf(2 + k % 15));
        }
        CHECK.noState("no room for the second", () -> Check.of(x.joins(ga, gb)));
        CHECK.due("the first left nothing either", () -> x.count(0), 299);
        CHECK.holds("room for one", x.joins(ga, ga));
        CHECK.due("it is there", () -> x.count(0), 300);
        CHECK.noState("no room at all", () -> Check.of(x.joins(ga, gb)));
    }
}
