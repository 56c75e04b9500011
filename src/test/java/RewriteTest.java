/** Promises 8 and 11 to 14: rewrite, and what is told of its run. */
public final class RewriteTest {
    private static final Check CHECK = new Check("RewriteTest");

    public static void main(String[] args) {
        firstPlaceFromWithin();
        lowestRule();
        sameHoleSameTree();
        numbersOfNewTrees();
        stepsAndSpent();
        conditionsOfRows();
        rowsAreReplaced();
        wrongArguments();
        tooDeep();
        tooHeavy();
        tooMany();
        CHECK.end();
    }

    private static void row(RuleSteps x, int k, int... due) {
        for (int what = 0; what < 4; what++) {
            int w = what;
            CHECK.due("row(" + k + ", " + w + ")", () -> x.row(k, w), due[w]);
        }
    }

    private static void firstPlaceFromWithin() {
        RuleSteps x = new RuleSteps();
        int a = x.leaf(0);
        int b = x.leaf(1);
        int h = x.hole(0);
        int fh = x.node(0, h, -1);
        x.rule(fh, h, -1);
        int fa = x.node(0, a, -1);
        int fb = x.node(0, b, -1);
        int ffb = x.node(0, fb, -1);
        int whole = x.node(0, x.node(6, ffb, fa), -1);
        // Places: 0 f, 1 p, 2 f, 3 f, 4 b, 5 f, 6 a. The outer ones match too, but not from within.
        CHECK.due("the last tree", () -> x.rewrite(whole, 200), 13);
        CHECK.due("made on the way", () -> x.count(0), 15);
        CHECK.due("steps", x::steps, 4);
        int[] places = {3, 2, 3, 0};
        for (int k = 0; k < 4; k++) {
            int n = k;
            CHECK.due("place of row " + n, () -> x.row(n, 1), places[n]);
        }
        CHECK.due("head of the last", () -> x.head(13), 6);
        CHECK.due("its first part", () -> x.at(13, 1), b);
        CHECK.due("its second part", () -> x.at(13, 2), a);
        CHECK.fails("it ended by itself", x.spent());
    }

    private static void lowestRule() {
        RuleSteps x = new RuleSteps();
        int a = x.leaf(0);
        int b = x.leaf(1);
        int c = x.leaf(2);
        int h = x.hole(0);
        int fa = x.node(0, a, -1);
        int fh = x.node(0, h, -1);
        x.rule(fa, b, 0);
        x.rule(fh, c, -1);
        x.rule(fa, a, -1);
        CHECK.due("rule 0 may not be used", () -> x.rewrite(fa, 1), c);
        row(x, 0, 1, 0, fa, c);
        x.holds(0, 1);
        CHECK.due("now it may", () -> x.rewrite(fa, 1), b);
        row(x, 0, 0, 0, fa, b);
        x.holds(0, 0);
        x.choose(1, false);
        CHECK.due("the last one", () -> x.rewrite(fa, 1), a);
        row(x, 0, 2, 0, fa, a);
    }

    private static void sameHoleSameTree() {
        RuleSteps x = new RuleSteps();
        int a = x.leaf(0);
        int b = x.leaf(1);
        int h = x.hole(0);
        x.rule(x.node(6, h, h), h, -1);
        int ab = x.node(6, a, b);
        int bb = x.node(6, b, b);
        int whole = x.node(6, ab, bb);
        CHECK.due("other trees for one hole don't match", () -> x.rewrite(ab, 200), ab);
        CHECK.due("no step", x::steps, 0);
        CHECK.due("the same one does", () -> x.rewrite(bb, 200), b);
        CHECK.due("only there", () -> x.rewrite(whole, 200), 7);
        row(x, 0, 0, 4, whole, 7);
        int two = x.node(7, ab, ab);
        CHECK.due("a plain rule", () -> x.rule(ab, b, -1), 1);
        CHECK.due("one place at a time", () -> x.rewrite(two, 1), 9);
        row(x, 0, 1, 1, two, 9);
        CHECK.due("the second place", () -> x.at(9, 2), ab);
    }

    private static void numbersOfNewTrees() {
        RuleSteps x = new RuleSteps();
        int a = x.leaf(0);
        int h = x.hole(0);
        int fh = x.node(0, h, -1);
        int right = x.node(9, x.node(6, x.node(3, h, -1), h), x.node(4, h, -1));
        x.rule(fh, right, -1);
        int fa = x.node(0, a, -1);
        int whole = x.node(1, x.node(7, a, fa), -1);
        int size = x.count(0);
        CHECK.due("the last tree", () -> x.rewrite(whole, 200), size + 5);
        int[] heads = {3, 6, 4, 9, 7, 1};
        for (int k = 0; k < heads.length; k++) {
            int n = k;
            CHECK.due("head of new tree " + n, () -> x.head(size + n), heads[n]);
        }
        CHECK.due("no more trees", () -> x.count(0), size + 6);
        CHECK.due("once more makes none", () -> x.rewrite(whole, 200), size + 5);
        CHECK.due("still no more trees", () -> x.count(0), size + 6);
    }

    private static void stepsAndSpent() {
        RuleSteps x = new RuleSteps();
        int h = x.hole(0);
        int f = x.node(0, h, -1);
        x.rule(f, h, -1);
        int a = x.leaf(0);
        int f1 = x.node(0, a, -1);
        int f2 = x.node(0, f1, -1);
        CHECK.due("no steps", () -> x.rewrite(f2, 0), f2);
        CHECK.holds("had to stop at once", x.spent());
        CHECK.due("none were made", x::steps, 0);
        CHECK.due("no rows", () -> x.count(2), 0);
        CHECK.due("one step", () -> x.rewrite(f2, 1), f1);
        CHECK.holds("had to stop", x.spent());
        CHECK.due("two steps", () -> x.rewrite(f2, 2), a);
        CHECK.fails("came to its end with the last step", x.spent());
        CHECK.due("two were made", x::steps, 2);
        CHECK.due("200 steps", () -> x.rewrite(f2, 200), a);
        CHECK.due("two were enough", x::steps, 2);
        x.rule(f, f, -1);
        x.choose(0, false);
        CHECK.due("it stays as it is", () -> x.rewrite(f2, 200), f2);
        CHECK.due("200 were made", x::steps, 200);
        CHECK.due("200 rows", () -> x.count(2), 200);
        CHECK.holds("had to stop after 200", x.spent());
        row(x, 199, 1, 1, f2, f2);
        x.normal(f2);
        CHECK.holds("normal() doesn't change that", x.spent());
        CHECK.due("but steps are those of normal()", x::steps, 0);
        x.choose(1, false);
        CHECK.holds("choose() doesn't either", x.spent());
        x.rewrite(f2, 0);
        CHECK.fails("no rule matches any more", x.spent());
    }

    private static void conditionsOfRows() {
        RuleSteps x = new RuleSteps();
        int h = x.hole(0);
        int a = x.leaf(0);
        int[] heads = new int[4];
        for (int k = 0; k < 4; k++) {
            heads[k] = x.node(k, h, -1);
        }
        x.rule(heads[0], h, 0);
        x.rule(heads[1], h, 9);
        x.rule(heads[2], h, -1);
        x.rule(heads[3], h, 0);
        x.rule(heads[0], h, 4);
        for (int c = 0; c < 10; c++) {
            x.holds(c, 1);
        }
        int whole = x.node(3, x.node(2, x.node(1, x.node(0, a, -1), -1), -1), -1);
        CHECK.due("new", x::domain, 0);
        x.rewrite(whole, 1);
        CHECK.due("by rule 0", x::domain, 1);
        x.rewrite(whole, 3);
        CHECK.due("by rules 0 to 2", x::domain, 513);
        x.rewrite(whole, 4);
        CHECK.due("condition 0 counts once", x::domain, 513);
        x.holds(0, 0);
        CHECK.due("other answers change no rows", x::domain, 513);
        x.rewrite(whole, 1);
        CHECK.due("by rule 4", x::domain, 16);
        x.rewrite(a, 5);
        CHECK.due("no rows", x::domain, 0);
    }

    private static void rowsAreReplaced() {
        RuleSteps x = new RuleSteps();
        int h = x.hole(0);
        x.rule(x.node(0, h, -1), h, -1);
        int a = x.leaf(0);
        int f1 = x.node(0, a, -1);
        int f2 = x.node(0, f1, -1);
        int f3 = x.node(0, f2, -1);
        x.rewrite(f3, 200);
        row(x, 0, 0, 2, f3, f2);
        row(x, 1, 0, 1, f2, f1);
        row(x, 2, 0, 0, f1, a);
        CHECK.noIndex("row 3", () -> x.row(3, 0));
        CHECK.noIndex("row -1", () -> x.row(-1, 0));
        CHECK.noIndex("no such row comes first", () -> x.row(3, 4));
        CHECK.noArgument("what 4", () -> x.row(0, 4));
        CHECK.noArgument("what -1", () -> x.row(0, -1));
        x.rewrite(f1, 200);
        row(x, 0, 0, 0, f1, a);
        CHECK.noIndex("row 1 is gone", () -> x.row(1, 0));
        CHECK.due("one row", () -> x.count(2), 1);
    }

    private static void wrongArguments() {
        RuleSteps x = new RuleSteps();
        int h = x.hole(0);
        int f = x.node(0, h, -1);
        int a = x.leaf(0);
        int fa = x.node(0, a, -1);
        x.rule(f, h, -1);
        x.rewrite(fa, 1);
        CHECK.noIndex("no such tree", () -> x.rewrite(4, 0));
        CHECK.noIndex("tree -1", () -> x.rewrite(-1, 0));
        CHECK.noIndex("no such tree comes first", () -> x.rewrite(4, 201));
        CHECK.noArgument("a hole", () -> x.rewrite(h, 1));
        CHECK.noArgument("a hole within", () -> x.rewrite(f, 1));
        CHECK.noArgument("-1 steps", () -> x.rewrite(fa, -1));
        CHECK.noArgument("201 steps", () -> x.rewrite(fa, 201));
        CHECK.due("the rows are as they were", () -> x.count(2), 1);
        CHECK.due("the steps are as they were", x::steps, 1);
    }

    /** What a refused run must leave as it was: it goes some steps before it is refused. */
    private static void refused(RuleSteps x, int tree, int okTree) {
        x.rewrite(okTree, 1);
        int size = x.count(0);
        int behind = x.row(0, 3);
        boolean spent = x.spent();
        int domain = x.domain();
        CHECK.noState("a refused run", () -> x.rewrite(tree, 200));
        CHECK.due("trees as they were", () -> x.count(0), size);
        CHECK.due("rows as they were", () -> x.count(2), 1);
        CHECK.due("the row as it was", () -> x.row(0, 3), behind);
        CHECK.due("steps as they were", x::steps, 1);
        CHECK.due("spent as it was", () -> Check.of(x.spent()), Check.of(spent));
        CHECK.due("domain as it was", x::domain, domain);
        CHECK.noIndex("no tree more", () -> x.head(size));
    }

    private static void tooDeep() {
        RuleSteps x = new RuleSteps();
        int h = x.hole(0);
        int f = x.node(0, h, -1);
        x.rule(f, x.node(0, f, -1), -1);
        int a = x.leaf(0);
        int fa = x.node(0, a, -1);
        refused(x, fa, fa);
        CHECK.due("29 steps are fine", () -> x.measure(x.rewrite(fa, 29), 2), 30);
        CHECK.noState("30 are not", () -> x.rewrite(fa, 30));
        CHECK.due("nor were they counted", x::steps, 29);
    }

    private static void tooHeavy() {
        RuleSteps x = new RuleSteps();
        int h = x.hole(0);
        x.rule(x.node(0, h, -1), x.node(6, h, h), 3);
        x.holds(3, 1);
        int nodes = x.leaf(0);
        for (int n = 0; n < 9; n++) {
            nodes = x.node(0, nodes, -1);
        }
        int tree = nodes;
        refused(x, tree, x.at(tree, 4));
        int eight = x.at(tree, 1);
        CHECK.due("one less is fine", () -> x.measure(x.rewrite(eight, 200), 0), 511);
    }

    private static void tooMany() {
        RuleSteps x = new RuleSteps();
        int h = x.hole(0);
        int f = x.node(0, h, -1);
        int g = x.node(1, h, -1);
        x.rule(f, g, -1);
        int a = x.leaf(0);
        int fa = x.node(0, a, -1);
        int fb = x.node(0, x.leaf(1), -1);
        int pair = x.node(6, fa, fb);
        for (int k = 0; x.count(0) < 297; k++) {
            x.node(9 + k / 200, x.leaf(2 + k / 15 % 15), x.leaf(2 + k % 15));
        }
        CHECK.due("297 trees", () -> x.count(0), 297);
        x.rewrite(fa, 1);
        refused(x, pair, fa);
        x.node(5, a, -1);
        CHECK.due("299 trees", () -> x.count(0), 299);
        x.rewrite(fb, 1);
        CHECK.due("300 trees", () -> x.count(0), 300);
        refused(x, pair, fb);
    }
}
