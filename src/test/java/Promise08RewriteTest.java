/** Promise 8: rewrite, and the terms MATCHES, STEP and RUN. */
public final class Promise08RewriteTest {
    private static final Check CHECK = new Check("Promise 8");

    public static void main(String[] args) {
        CHECK.test("IllegalArgumentException: steps aren't 0 .. 200", Promise08RewriteTest::stepsTaken);
        CHECK.test("of so many steps at most", Promise08RewriteTest::stepsMade);
        CHECK.test("of so many steps at most: 200", Promise08RewriteTest::mostSteps);
        CHECK.test("A RUN makes steps until no rule matches anywhere", Promise08RewriteTest::nothingMatches);
        CHECK.test("The rows of this run are kept", Promise08RewriteTest::rowsAreReplaced);
        CHECK.test("by all rules that may be used", Promise08RewriteTest::rulesOfTheRun);
        CHECK.test("IndexOutOfBoundsException: no such tree", Promise08RewriteTest::noSuchTree);
        CHECK.test("IllegalArgumentException: the tree isn't plain", Promise08RewriteTest::notPlain);
        CHECK.test("Of several the one that stands first behind throws", Promise08RewriteTest::firstOfSeveral);
        steps();
        CHECK.end();
    }

    private static void steps() {
        CHECK.test("MATCHES: plain trees for its holes, the same for the same name", Promise08RewriteTest::sameHoles);
        CHECK.test("MATCHES: with which it is that tree", Promise08RewriteTest::isThatTree);
        CHECK.test("MATCHES: the deepest and the heaviest trees", Promise08RewriteTest::largestTrees);
        CHECK.test("places that have none such within (but itself)", Promise08RewriteTest::fromWithin);
        CHECK.test("of its places that with the lowest number", Promise08RewriteTest::lowestPlace);
        CHECK.test("of its places: one of 1000", Promise08RewriteTest::farPlace);
        CHECK.test("by the rule with the lowest number that matches there", Promise08RewriteTest::lowestRule);
        CHECK.test("the tree there becomes the right one with the trees of its holes", Promise08RewriteTest::rightTrees);
        CHECK.test("New trees of a step get their numbers so", Promise08RewriteTest::numbers);
    }

    private static void stepsTaken() {
        Counted x = new Counted();
        int f = x.node(0, x.leaf(0), -1);
        x.rule(f, f, -1);
        for (int steps : new int[] {0, 1, 2, 199, 200}) {
            CHECK.due("rewrite(f, " + steps + ")", () -> x.rewrite(f, steps), f);
            CHECK.due("its steps", x::steps, steps);
        }
        CHECK.noArgument("-1 steps", () -> x.rewrite(f, -1));
        CHECK.noArgument("201 steps", () -> x.rewrite(f, 201));
        CHECK.noArgument("the lowest int", () -> x.rewrite(f, Integer.MIN_VALUE));
        CHECK.noArgument("the highest int", () -> x.rewrite(f, Integer.MAX_VALUE));
        x.choose(0, false);
        CHECK.noArgument("201 steps where none would be made", () -> x.rewrite(f, 201));
    }

    private static void stepsMade() {
        Counted x = Scenes.counter();
        int c3 = Scenes.countdown(x, 3);
        int c2 = Scenes.countdown(x, 2);
        int c1 = Scenes.countdown(x, 1);
        int[] last = {c3, c2, c1, 0, 0, 0};
        for (int most = 0; most < last.length; most++) {
            int n = most;
            CHECK.due(n + " steps at most", () -> x.rewrite(c3, n), last[n]);
            CHECK.due("steps made", x::steps, Math.min(n, 3));
            CHECK.due("rows", () -> x.count(2), Math.min(n, 3));
        }
    }

    private static void mostSteps() {
        Counted x = Scenes.counter();
        int c200 = Scenes.countdown(x, 200);
        int c201 = Scenes.countdown(x, 201);
        int c1 = Scenes.countdown(x, 1);
        int c2 = Scenes.countdown(x, 2);
        CHECK.due("the end of 200", () -> x.rewrite(c200, 200), 0);
        CHECK.due("rows", () -> x.count(2), 200);
        CHECK.row(x, 199, 15, 0, c1, 0);
        CHECK.due("one ahead of the end", () -> x.rewrite(c200, 199), c1);
        CHECK.due("rows of 199", () -> x.count(2), 199);
        CHECK.due("200 of 201", () -> x.rewrite(c201, 200), c1);
        CHECK.row(x, 199, 0, 0, c2, c1);
        CHECK.due("rows of 200", () -> x.count(2), 200);
    }

    private static void nothingMatches() {
        Counted x = new Counted();
        int a = x.leaf(0);
        int h = x.hole(0);
        int f = x.node(0, h, -1);
        int fa = x.node(0, a, -1);
        CHECK.due("no rules", () -> x.rewrite(fa, 200), fa);
        CHECK.due("no steps", x::steps, 0);
        x.rule(f, h, -1);
        CHECK.due("a leaf", () -> x.rewrite(a, 200), a);
        CHECK.due("no step of a leaf", x::steps, 0);
        CHECK.due("a node of another head", () -> x.rewrite(x.node(1, a, -1), 200), 4);
        CHECK.due("no step of it", x::steps, 0);
        int top = Scenes.around(x, 0, a, 30);
        CHECK.due("the deepest tree", () -> x.rewrite(top, 200), a);
        CHECK.due("all its steps", x::steps, 30);
        CHECK.row(x, 0, 0, 29, top, x.at(top, 1));
        CHECK.row(x, 29, 0, 0, fa, a);
    }

    private static void rowsAreReplaced() {
        Counted x = new Counted();
        int h = x.hole(0);
        x.rule(x.node(0, h, -1), h, -1);
        int a = x.leaf(0);
        int f1 = x.node(0, a, -1);
        int f2 = x.node(0, f1, -1);
        int f3 = x.node(0, f2, -1);
        x.rewrite(f3, 200);
        CHECK.row(x, 0, 0, 2, f3, f2);
        CHECK.row(x, 1, 0, 1, f2, f1);
        CHECK.row(x, 2, 0, 0, f1, a);
        x.rewrite(f1, 200);
        CHECK.row(x, 0, 0, 0, f1, a);
        CHECK.noIndex("those of the run before are gone", () -> x.row(1, 0));
        x.rewrite(f3, 0);
        CHECK.noIndex("a run without steps keeps none", () -> x.row(0, 0));
        CHECK.due("rows", () -> x.count(2), 0);
    }

    private static void rulesOfTheRun() {
        Counted x = new Counted();
        int a = x.leaf(0);
        int b = x.leaf(1);
        int c = x.leaf(2);
        int fa = x.node(0, a, -1);
        int fb = x.node(0, b, -1);
        int fc = x.node(0, c, -1);
        x.rule(fa, fb, 0);
        x.rule(fb, fc, 9);
        x.rule(fc, c, -1);
        CHECK.due("open", () -> x.rewrite(fa, 200), fa);
        x.holds(0, 1);
        CHECK.due("yes to 0, though it doesn't lessen", () -> x.rewrite(fa, 200), fb);
        x.holds(9, 0);
        CHECK.due("no to 9", () -> x.rewrite(fa, 200), fb);
        x.holds(9, 1);
        CHECK.due("yes to both", () -> x.rewrite(fa, 200), c);
        x.choose(2, false);
        CHECK.due("rule 2 isn't chosen", () -> x.rewrite(fa, 200), fc);
        x.holds(0, 2);
        CHECK.due("open again", () -> x.rewrite(fa, 200), fa);
    }

    private static void noSuchTree() {
        Counted x = new Counted();
        CHECK.noIndex("none yet", () -> x.rewrite(0, 0));
        int a = x.leaf(0);
        CHECK.noIndex("tree -1", () -> x.rewrite(-1, 1));
        CHECK.noIndex("tree 1", () -> x.rewrite(1, 1));
        CHECK.noIndex("the lowest int", () -> x.rewrite(Integer.MIN_VALUE, 1));
        CHECK.noIndex("the highest int", () -> x.rewrite(Integer.MAX_VALUE, 1));
        Scenes.fill(x, a, 300);
        CHECK.due("tree 299", () -> x.rewrite(299, 1), 299);
        CHECK.noIndex("tree 300", () -> x.rewrite(300, 1));
    }

    private static void notPlain() {
        Counted x = new Counted();
        int a = x.leaf(0);
        int h = x.hole(0);
        int h5 = x.hole(5);
        int f = x.node(0, h, -1);
        int plain = x.node(6, x.node(0, a, -1), a);
        CHECK.noArgument("a hole itself", () -> x.rewrite(h, 0));
        CHECK.noArgument("hole 5 itself", () -> x.rewrite(h5, 200));
        CHECK.noArgument("a part", () -> x.rewrite(f, 200));
        CHECK.noArgument("the first part", () -> x.rewrite(x.node(6, h, a), 200));
        CHECK.noArgument("the second part", () -> x.rewrite(x.node(6, a, h5), 200));
        CHECK.noArgument("a part of a part", () -> x.rewrite(x.node(6, a, f), 200));
        int deep = Scenes.around(x, 0, h, 30);
        CHECK.noArgument("30 deep within", () -> x.rewrite(deep, 200));
        CHECK.due("a leaf is plain", () -> x.rewrite(a, 0), a);
        CHECK.due("so is a node without holes", () -> x.rewrite(plain, 200), plain);
    }

    private static void firstOfSeveral() {
        Counted x = new Counted();
        int h = x.hole(0);
        int f = x.node(0, h, -1);
        x.rule(f, x.node(0, f, -1), -1);
        int fa = x.node(0, x.leaf(0), -1);
        CHECK.noIndex("no such tree, 201 steps", () -> x.rewrite(99, 201));
        CHECK.noIndex("no such tree, -1 steps", () -> x.rewrite(-1, -1));
        CHECK.noState("too deep", () -> x.rewrite(fa, 200));
        CHECK.noArgument("201 steps, and too deep", () -> x.rewrite(fa, 201));
        CHECK.noArgument("-1 steps, and too deep", () -> x.rewrite(fa, -1));
        CHECK.noArgument("not plain, 201 steps", () -> x.rewrite(f, 201));
    }

    private static void sameHoles() {
        Counted x = new Counted();
        int a = x.leaf(0);
        int b = x.leaf(1);
        int h = x.hole(0);
        int g = x.hole(1);
        x.rule(x.node(6, h, h), h, -1);
        x.rule(x.node(7, h, g), g, -1);
        int ab = x.node(6, a, b);
        CHECK.due("other trees for one hole", () -> x.rewrite(ab, 200), ab);
        CHECK.due("the same tree for one hole", () -> x.rewrite(x.node(6, b, b), 200), b);
        CHECK.due("the same node for one hole", () -> x.rewrite(x.node(6, ab, ab), 200), ab);
        CHECK.due("other trees for two holes", () -> x.rewrite(x.node(7, a, b), 200), b);
        CHECK.due("the same tree for two holes", () -> x.rewrite(x.node(7, a, a), 200), a);
        int deep = x.hole(5);
        x.rule(x.node(8, x.node(0, deep, -1), deep), deep, -1);
        CHECK.due("the same at other depths", () -> x.rewrite(x.node(8, x.node(0, ab, -1), ab), 200), ab);
        int other = x.node(8, x.node(0, a, -1), b);
        CHECK.due("others at other depths", () -> x.rewrite(other, 200), other);
    }

    private static void isThatTree() {
        Counted x = new Counted();
        int a = x.leaf(0);
        int b = x.leaf(1);
        int h = x.hole(0);
        x.rule(x.node(6, h, x.node(0, a, -1)), h, -1);
        int fa = x.node(0, a, -1);
        CHECK.due("a leaf for the hole", () -> x.rewrite(x.node(6, b, fa), 200), b);
        CHECK.due("a node for the hole", () -> x.rewrite(x.node(6, fa, fa), 200), fa);
        int[] others = {x.node(6, b, x.node(0, b, -1)), x.node(6, b, x.node(1, a, -1)), x.node(6, fa, a),
                x.node(7, b, fa), x.node(0, fa, -1), x.node(6, b, x.node(0, fa, -1))};
        for (int other : others) {
            CHECK.due("it isn't tree " + other, () -> x.rewrite(other, 200), other);
        }
        x.rule(x.node(9, a, b), a, -1);
        CHECK.due("a left tree without holes", () -> x.rewrite(x.node(9, a, b), 200), a);
        int ba = x.node(9, b, a);
        CHECK.due("it isn't the other way round", () -> x.rewrite(ba, 200), ba);
    }

    private static void largestTrees() {
        Counted x = new Counted();
        int a = x.leaf(0);
        int h = x.hole(0);
        int deepHole = Scenes.around(x, 0, h, 30);
        int deepLeaf = Scenes.around(x, 0, a, 30);
        x.rule(deepHole, h, -1);
        x.rule(x.node(1, h, -1), deepHole, -1);
        CHECK.due("a left tree 30 deep", () -> x.rewrite(deepLeaf, 1), a);
        int d29 = x.at(deepLeaf, 1);
        CHECK.due("it isn't 29 deep", () -> x.rewrite(d29, 1), d29);
        CHECK.due("a right tree 30 deep", () -> x.rewrite(x.node(1, a, -1), 1), deepLeaf);
        int w1000 = Scenes.heavy(x, 1000);
        int w999 = x.at(w1000, 1);
        x.rule(w1000, a, -1);
        CHECK.due("a left tree that weighs 1000", () -> x.rewrite(w1000, 1), a);
        CHECK.row(x, 0, 2, 0, w1000, a);
        CHECK.due("it doesn't weigh 999", () -> x.rewrite(w999, 1), w999);
        x.rule(x.node(3, a, -1), w1000, -1);
        CHECK.due("a right tree that weighs 1000", () -> x.rewrite(x.node(3, a, -1), 1), w1000);
    }

    private static void fromWithin() {
        Counted x = new Counted();
        int a = x.leaf(0);
        int h = x.hole(0);
        x.rule(x.node(0, h, -1), x.node(1, h, -1), -1);
        int f3 = Scenes.around(x, 0, a, 3);
        x.rewrite(f3, 200);
        for (int k = 0; k < 3; k++) {
            int n = k;
            CHECK.due("place of row " + n, () -> x.row(n, 1), 2 - n);
        }
        int pair = x.node(6, x.node(0, a, -1), a);
        int whole = x.node(0, pair, -1);
        x.rewrite(whole, 1);
        CHECK.due("itself matches too, but one within does", () -> x.row(0, 1), 2);
        x.rewrite(x.row(0, 3), 1);
        CHECK.due("none within: itself", () -> x.row(0, 1), 0);
    }

    private static void lowestPlace() {
        Counted x = new Counted();
        int a = x.leaf(0);
        int b = x.leaf(1);
        int h = x.hole(0);
        x.rule(x.node(0, h, -1), h, -1);
        int fa = x.node(0, a, -1);
        int ffb = x.node(0, x.node(0, b, -1), -1);
        int whole = x.node(0, x.node(6, ffb, fa), -1);
        // Places: 0 f, 1 6, 2 f, 3 f, 4 b, 5 f, 6 a. Place 2 is lower than 3, but has 3 within it.
        int size = x.count(0);
        int last = x.rewrite(whole, 200);
        int[] places = {3, 2, 3, 0};
        for (int k = 0; k < places.length; k++) {
            int n = k;
            CHECK.due("place of row " + n, () -> x.row(n, 1), places[n]);
        }
        CHECK.due("steps", x::steps, 4);
        CHECK.due("the last tree", () -> x.node(6, b, a), last);
        CHECK.due("new trees", () -> x.count(0), size + 6);
        int twice = x.node(6, fa, fa);
        x.rewrite(twice, 1);
        CHECK.row(x, 0, 0, 1, twice, x.node(6, a, fa));
    }

    private static void farPlace() {
        Counted x = new Counted();
        int a = x.leaf(0);
        x.rule(x.node(1, a, -1), a, -1);
        int ga = x.node(1, a, -1);
        int w997 = Scenes.heavy(x, 997);
        int whole = x.node(7, w997, ga);
        CHECK.due("its places", () -> x.measure(whole, 1), 1000);
        CHECK.due("the tree at the last but one", () -> x.at(whole, 998), ga);
        int last = x.rewrite(whole, 200);
        CHECK.row(x, 0, 0, 998, whole, last);
        CHECK.due("the last tree", () -> x.node(7, w997, a), last);
    }

    private static void lowestRule() {
        Counted x = new Counted();
        int a = x.leaf(0);
        int b = x.leaf(1);
        int c = x.leaf(2);
        int h = x.hole(0);
        int fa = x.node(0, a, -1);
        x.rule(fa, b, 0);
        x.rule(x.node(0, h, -1), c, -1);
        x.rule(fa, a, -1);
        CHECK.due("rule 0 may not be used", () -> x.rewrite(fa, 1), c);
        CHECK.row(x, 0, 1, 0, fa, c);
        x.holds(0, 1);
        CHECK.due("now it may", () -> x.rewrite(fa, 1), b);
        CHECK.row(x, 0, 0, 0, fa, b);
        x.holds(0, 0);
        x.choose(1, false);
        CHECK.due("the last one", () -> x.rewrite(fa, 1), a);
        CHECK.row(x, 0, 2, 0, fa, a);
        int fb = x.node(0, b, -1);
        for (int rule = 3; rule < 15; rule++) {
            x.rule(fa, fa, -1);
        }
        CHECK.due("a 16th", () -> x.rule(fb, c, -1), 15);
        CHECK.due("matches there alone", () -> x.rewrite(fb, 1), c);
        CHECK.row(x, 0, 15, 0, fb, c);
        CHECK.due("the place comes before the rule", () -> x.rewrite(x.node(6, fb, fa), 1), x.node(6, c, fa));
    }

    private static void rightTrees() {
        Counted x = new Counted();
        int a = x.leaf(0);
        int b = x.leaf(1);
        int h = x.hole(0);
        int g = x.hole(1);
        x.rule(x.node(6, h, g), x.node(7, g, x.node(8, h, g)), -1);
        x.rule(x.node(9, h, g), g, -1);
        x.rule(x.node(0, h, -1), b, -1);
        int ab = x.node(6, a, b);
        int due = x.node(7, b, x.node(8, a, b));
        CHECK.due("holes of the right tree", () -> x.rewrite(ab, 1), due);
        CHECK.due("a hole alone", () -> x.rewrite(x.node(9, a, ab), 2), due);
        CHECK.due("no hole", () -> x.rewrite(x.node(0, a, -1), 1), b);
        x.rule(x.node(1, h, -1), x.node(1, h, -1), -1);
        int g1 = x.node(1, a, -1);
        x.rewrite(g1, 1);
        CHECK.row(x, 0, 3, 0, g1, g1);
    }

    private static void numbers() {
        Counted x = new Counted();
        int a = x.leaf(0);
        int h = x.hole(0);
        int right = x.node(9, x.node(6, x.node(3, h, -1), h), x.node(4, h, -1));
        x.rule(x.node(0, h, -1), right, -1);
        int whole = x.node(1, x.node(7, a, x.node(0, a, -1)), -1);
        int size = x.count(0);
        CHECK.due("the last tree", () -> x.rewrite(whole, 200), size + 5);
        int[] heads = {3, 6, 4, 9, 7, 1};
        for (int k = 0; k < heads.length; k++) {
            int n = k;
            CHECK.due("head of new tree " + n, () -> x.head(size + n), heads[n]);
        }
        CHECK.due("trees", () -> x.count(0), size + 6);
        CHECK.due("those that are there keep theirs", () -> x.rewrite(whole, 200), size + 5);
        CHECK.due("still as many", () -> x.count(0), size + 6);
    }
}
