/** Promises 1 to 4 and 18 to 21: a new object, and trees. */
public final class TreesTest {
    private static final Check CHECK = new Check("TreesTest");

    public static void main(String[] args) {
        newObject();
        leaves();
        holes();
        nodes();
        wrongNodes();
        deepest();
        heaviest();
        manyTrees();
        measures();
        places();
        counts();
        CHECK.end();
    }

    private static void newObject() {
        RuleSteps x = new RuleSteps();
        for (int what = 0; what < 3; what++) {
            int w = what;
            CHECK.due("new count(" + what + ")", () -> x.count(w), 0);
        }
        CHECK.noIndex("new head(0)", () -> x.head(0));
        CHECK.noIndex("new usable(0)", () -> Check.of(x.usable(0)));
        CHECK.noIndex("new row(0, 0)", () -> x.row(0, 0));
        CHECK.fails("new spent()", x.spent());
        CHECK.due("new steps()", x::steps, 0);
        CHECK.due("new domain()", x::domain, 0);
        RuleSteps other = new RuleSteps();
        other.leaf(3);
        CHECK.due("objects share nothing", () -> x.count(0), 0);
    }

    private static void leaves() {
        RuleSteps x = new RuleSteps();
        for (int name = 0; name < 20; name++) {
            int n = name;
            CHECK.due("leaf(" + n + ")", () -> x.leaf(n), n);
            CHECK.due("head of leaf " + n, () -> x.head(n), -1 - n);
        }
        CHECK.due("leaf(7) again", () -> x.leaf(7), 7);
        CHECK.noArgument("leaf(-1)", () -> x.leaf(-1));
        CHECK.noArgument("leaf(20)", () -> x.leaf(20));
        CHECK.noArgument("leaf of the lowest int", () -> x.leaf(Integer.MIN_VALUE));
        CHECK.due("no more trees", () -> x.count(0), 20);
    }

    private static void holes() {
        RuleSteps x = new RuleSteps();
        x.leaf(0);
        for (int name = 0; name < 6; name++) {
            int n = name;
            CHECK.due("hole(" + n + ")", () -> x.hole(n), 1 + n);
            CHECK.due("head of hole " + n, () -> x.head(1 + n), 100 + n);
            CHECK.due("weight of hole " + n, () -> x.measure(1 + n, 0), 1);
            CHECK.due("holes of hole " + n, () -> x.measure(1 + n, 3), 1 << n);
        }
        CHECK.due("hole(0) again", () -> x.hole(0), 1);
        CHECK.noArgument("hole(-1)", () -> x.hole(-1));
        CHECK.noArgument("hole(6)", () -> x.hole(6));
        CHECK.due("no more trees", () -> x.count(0), 7);
    }

    private static void nodes() {
        RuleSteps x = new RuleSteps();
        int a = x.leaf(0);
        int b = x.leaf(1);
        for (int head = 0; head < 12; head++) {
            int h = head;
            int second = head < 6 ? -1 : b;
            CHECK.due("node(" + h + ", ..)", () -> x.node(h, a, second), 2 + h);
            CHECK.due("head of it", () -> x.head(2 + h), h);
            CHECK.due("weight of it", () -> x.measure(2 + h, 0), (h < 6 ? 2 : 3) + (h % 3 == 2 ? 1 : 0));
        }
        CHECK.due("an equal node", () -> x.node(6, a, b), 8);
        CHECK.due("parts the other way round", () -> x.node(6, b, a), 14);
        CHECK.due("an equal node of one part", () -> x.node(5, a, -1), 7);
    }

    private static void wrongNodes() {
        RuleSteps x = new RuleSteps();
        x.leaf(0);
        CHECK.noIndex("first part isn't there", () -> x.node(0, 1, -1));
        CHECK.noIndex("first part -1", () -> x.node(0, -1, -1));
        CHECK.noIndex("second part isn't there", () -> x.node(6, 0, 1));
        CHECK.noIndex("second part -1 of a head with two", () -> x.node(6, 0, -1));
        CHECK.noIndex("second part -1 of head 12", () -> x.node(12, 0, -1));
        CHECK.noIndex("second part -2 of a head with one", () -> x.node(0, 0, -2));
        CHECK.noIndex("second part isn't there, head with one", () -> x.node(0, 0, 1));
        CHECK.noIndex("no such head and no such part", () -> x.node(12, 5, 0));
        CHECK.noArgument("no such head, 12", () -> x.node(12, 0, 0));
        CHECK.noArgument("no such head, -1", () -> x.node(-1, 0, -1));
        CHECK.noArgument("no such head, -1, of two", () -> x.node(-1, 0, 0));
        CHECK.noArgument("a part too many", () -> x.node(5, 0, 0));
        CHECK.due("no more trees", () -> x.count(0), 1);
    }

    private static void deepest() {
        RuleSteps x = new RuleSteps();
        int[] top = {x.leaf(0)};
        for (int deep = 1; deep <= 30; deep++) {
            top[0] = x.node(0, top[0], -1);
        }
        CHECK.due("how deep", () -> x.measure(top[0], 2), 30);
        CHECK.noState("31 deep", () -> x.node(0, top[0], -1));
        CHECK.noState("31 deep by the second part", () -> x.node(6, 0, top[0]));
        CHECK.noArgument("no such head comes first", () -> x.node(12, top[0], top[0]));
        CHECK.due("no more trees", () -> x.count(0), 31);
        CHECK.due("the next number", () -> x.leaf(1), 31);
    }

    private static void heaviest() {
        RuleSteps x = new RuleSteps();
        int[] top = {x.leaf(0)};
        for (int n = 0; n < 8; n++) {
            top[0] = x.node(6, top[0], top[0]);
        }
        // 511 and 486 and a head of weight 2 make 999, then 1000.
        int t255 = x.at(top[0], 1);
        int t127 = x.at(t255, 1);
        int t63 = x.at(t127, 1);
        int t31 = x.at(t63, 1);
        int t384 = x.node(8, t255, t127);
        int t449 = x.node(8, t384, t63);
        int t482 = x.node(8, t449, t31);
        int t486 = x.node(5, x.node(5, t482, -1), -1);
        int t999 = x.node(8, top[0], t486);
        CHECK.due("weight 999", () -> x.measure(t999, 0), 999);
        int t1000 = x.node(0, t999, -1);
        CHECK.due("weight 1000", () -> x.measure(t1000, 0), 1000);
        int size = x.count(0);
        CHECK.noState("weight 1001 by a heavier head", () -> x.node(2, t999, -1));
        CHECK.noState("weight 1001", () -> x.node(0, t1000, -1));
        CHECK.due("no more trees", () -> x.count(0), size);
    }

    private static void manyTrees() {
        RuleSteps x = new RuleSteps();
        int made = 0;
        for (int name = 0; name < 19; name++) {
            made = x.leaf(name) + 1;
        }
        for (int k = 0; made < 300; k++) {
            made = x.node(6 + k / 361, k / 19 % 19, k % 19) + 1;
        }
        CHECK.due("300 trees", () -> x.count(0), 300);
        CHECK.noState("one leaf more", () -> x.leaf(19));
        CHECK.noState("one hole more", () -> x.hole(0));
        CHECK.noState("one node more", () -> x.node(0, 0, -1));
        CHECK.noArgument("a wrong leaf", () -> x.leaf(20));
        CHECK.noArgument("a wrong hole", () -> x.hole(6));
        CHECK.noIndex("a wrong node", () -> x.node(0, 300, -1));
        CHECK.due("a leaf that is there", () -> x.leaf(4), 4);
        CHECK.due("a node that is there", () -> x.node(6, 0, 1), 20);
        CHECK.due("still 300 trees", () -> x.count(0), 300);
    }

    private static void measures() {
        RuleSteps x = new RuleSteps();
        int a = x.leaf(0);
        int h = x.hole(2);
        int g = x.hole(5);
        int n = x.node(11, x.node(2, h, -1), x.node(6, a, x.node(0, g, -1)));
        CHECK.due("weight", () -> x.measure(n, 0), 9);
        CHECK.due("places", () -> x.measure(n, 1), 7);
        CHECK.due("deep", () -> x.measure(n, 2), 3);
        CHECK.due("holes", () -> x.measure(n, 3), 36);
        CHECK.due("weight of a leaf", () -> x.measure(a, 0), 1);
        CHECK.due("places of a hole", () -> x.measure(h, 1), 1);
        CHECK.due("a leaf is 0 deep", () -> x.measure(a, 2), 0);
        CHECK.due("a leaf has no holes", () -> x.measure(a, 3), 0);
        CHECK.noArgument("another what, 4", () -> x.measure(n, 4));
        CHECK.noArgument("another what, -1", () -> x.measure(n, -1));
        CHECK.noIndex("no such tree", () -> x.measure(n + 1, 0));
        CHECK.noIndex("no such tree, -1", () -> x.measure(-1, 0));
        CHECK.noIndex("no such tree comes first", () -> x.measure(-1, 9));
    }

    private static void places() {
        RuleSteps x = new RuleSteps();
        int a = x.leaf(0);
        int h = x.hole(0);
        int f = x.node(0, a, -1);
        int p = x.node(6, f, h);
        int q = x.node(7, p, p);
        int[] due = {q, p, f, a, h, p, f, a, h};
        for (int place = 0; place < due.length; place++) {
            int k = place;
            CHECK.due("at(q, " + k + ")", () -> x.at(q, k), due[k]);
        }
        CHECK.due("behind the last place", () -> x.at(q, 9), -1);
        CHECK.due("place -1", () -> x.at(q, -1), -1);
        CHECK.due("the highest place", () -> x.at(q, Integer.MAX_VALUE), -1);
        CHECK.due("a leaf itself", () -> x.at(a, 0), a);
        CHECK.due("a leaf has one place", () -> x.at(a, 1), -1);
        CHECK.noIndex("no such tree", () -> x.at(5, 0));
        CHECK.noIndex("no such tree, -1", () -> x.at(-1, 0));
        CHECK.noIndex("head of no such tree", () -> x.head(5));
        CHECK.noIndex("head of tree -1", () -> x.head(-1));
    }

    private static void counts() {
        RuleSteps x = new RuleSteps();
        int f = x.node(0, x.leaf(0), -1);
        x.rule(f, 0, -1);
        x.rule(f, f, -1);
        x.rewrite(f, 200);
        x.choose(0, false);
        x.rewrite(f, 7);
        CHECK.due("count(0)", () -> x.count(0), 2);
        CHECK.due("count(1)", () -> x.count(1), 2);
        CHECK.due("count(2)", () -> x.count(2), 7);
        CHECK.due("count(3)", () -> x.count(3), -1);
        CHECK.due("count(-1)", () -> x.count(-1), -1);
    }
}
