/** Promise 18: measure. */
public final class Promise18MeasureTest {
    private static final Check CHECK = new Check("Promise 18");

    public static void main(String[] args) {
        CHECK.test("WEIGHT: 1 of a leaf or hole", Promise18MeasureTest::smallWeights);
        CHECK.test("of a node the weights of its parts, and 1", Promise18MeasureTest::nodeWeights);
        CHECK.test("for heads 2, 5, 8, 11 one more", Promise18MeasureTest::heavierHeads);
        CHECK.test("weigh 1000 at most", Promise18MeasureTest::heaviest);
        CHECK.test("what 1: how many places it has", Promise18MeasureTest::places);
        CHECK.test("leaves and holes are 0 deep", Promise18MeasureTest::notDeep);
        CHECK.test("at most 30 deep (parts within parts)", Promise18MeasureTest::deep);
        CHECK.test("what 3: its holes as a sum of 1 << name", Promise18MeasureTest::holes);
        CHECK.test("IllegalArgumentException: another what", Promise18MeasureTest::anotherWhat);
        CHECK.test("IndexOutOfBoundsException: no such tree", Promise18MeasureTest::noSuchTree);
        CHECK.test("Of several the one that stands first behind throws", Promise18MeasureTest::indexFirst);
        CHECK.end();
    }

    private static void smallWeights() {
        Counted x = new Counted();
        int[] small = {x.leaf(0), x.leaf(19), x.leaf(2), x.hole(0), x.hole(5), x.hole(2)};
        for (int tree : small) {
            CHECK.due("weight", () -> x.measure(tree, 0), 1);
        }
    }

    private static void nodeWeights() {
        Counted x = new Counted();
        int a = x.leaf(0);
        int h = x.hole(0);
        CHECK.due("one part", () -> x.measure(x.node(0, a, -1), 0), 2);
        CHECK.due("two parts", () -> x.measure(x.node(6, a, h), 0), 3);
        CHECK.due("parts with parts", () -> x.measure(x.node(7, x.node(6, a, h), x.node(0, a, -1)), 0), 6);
        CHECK.due("the same part twice", () -> x.measure(x.node(7, x.node(0, a, -1), x.node(0, a, -1)), 0), 5);
    }

    private static void heavierHeads() {
        Counted x = new Counted();
        int a = x.leaf(0);
        int[] due = {2, 2, 3, 2, 2, 3, 3, 3, 4, 3, 3, 4};
        for (int head = 0; head < 12; head++) {
            int h = head;
            int node = x.node(h, a, h < 6 ? -1 : a);
            CHECK.due("head " + h, () -> x.measure(node, 0), due[h]);
        }
    }

    private static void heaviest() {
        Counted x = new Counted();
        int w1000 = Scenes.heavy(x, 1000);
        CHECK.due("weight", () -> x.measure(w1000, 0), 1000);
        CHECK.due("places", () -> x.measure(w1000, 1), 1000);
    }

    private static void places() {
        Counted x = new Counted();
        int a = x.leaf(0);
        int h = x.hole(0);
        int f = x.node(2, a, -1);
        int p = x.node(8, f, h);
        CHECK.due("of a leaf", () -> x.measure(a, 1), 1);
        CHECK.due("of a hole", () -> x.measure(h, 1), 1);
        CHECK.due("of one part", () -> x.measure(f, 1), 2);
        CHECK.due("of two", () -> x.measure(p, 1), 4);
        CHECK.due("of the same two", () -> x.measure(x.node(11, p, p), 1), 9);
    }

    private static void notDeep() {
        Counted x = new Counted();
        int[] small = {x.leaf(0), x.leaf(19), x.hole(0), x.hole(5)};
        for (int tree : small) {
            CHECK.due("deep", () -> x.measure(tree, 2), 0);
        }
    }

    private static void deep() {
        Counted x = new Counted();
        int a = x.leaf(0);
        int f = x.node(0, a, -1);
        CHECK.due("one part", () -> x.measure(f, 2), 1);
        CHECK.due("the first is deeper", () -> x.measure(x.node(6, f, a), 2), 2);
        CHECK.due("the second is deeper", () -> x.measure(x.node(6, a, f), 2), 2);
        CHECK.due("both are", () -> x.measure(x.node(6, f, f), 2), 2);
        int d30 = Scenes.around(x, 5, a, 30);
        CHECK.due("the deepest", () -> x.measure(d30, 2), 30);
    }

    private static void holes() {
        Counted x = new Counted();
        int all = x.leaf(0);
        CHECK.due("of a leaf", () -> x.measure(0, 3), 0);
        for (int name = 0; name < 6; name++) {
            int h = x.hole(name);
            int n = name;
            all = x.node(6, all, h);
            int now = all;
            CHECK.due("of hole " + n, () -> x.measure(h, 3), 1 << n);
            CHECK.due("of all up to " + n, () -> x.measure(now, 3), (2 << n) - 1);
        }
        int h5 = x.hole(5);
        CHECK.due("twice the same", () -> x.measure(x.node(6, h5, h5), 3), 32);
        CHECK.due("of one part", () -> x.measure(x.node(0, h5, -1), 3), 32);
        CHECK.due("of the first part", () -> x.measure(x.node(6, h5, 0), 3), 32);
    }

    private static void anotherWhat() {
        Counted x = new Counted();
        x.leaf(0);
        CHECK.noArgument("what -1", () -> x.measure(0, -1));
        CHECK.noArgument("what 4", () -> x.measure(0, 4));
        CHECK.noArgument("the lowest int", () -> x.measure(0, Integer.MIN_VALUE));
        CHECK.noArgument("the highest int", () -> x.measure(0, Integer.MAX_VALUE));
        CHECK.due("what 0", () -> x.measure(0, 0), 1);
        CHECK.due("what 3", () -> x.measure(0, 3), 0);
    }

    private static void noSuchTree() {
        Counted x = new Counted();
        CHECK.noIndex("none yet", () -> x.measure(0, 0));
        int a = x.leaf(0);
        for (int what = 0; what < 4; what++) {
            int w = what;
            CHECK.noIndex("tree -1", () -> x.measure(-1, w));
            CHECK.noIndex("tree 1", () -> x.measure(1, w));
        }
        Scenes.fill(x, a, 300);
        CHECK.yes("tree 299", () -> x.measure(299, 0) > 1);
        CHECK.noIndex("tree 300", () -> x.measure(300, 0));
        CHECK.noIndex("the lowest int", () -> x.measure(Integer.MIN_VALUE, 0));
        CHECK.noIndex("the highest int", () -> x.measure(Integer.MAX_VALUE, 0));
    }

    private static void indexFirst() {
        Counted x = new Counted();
        x.leaf(0);
        CHECK.noIndex("tree 1, what 4", () -> x.measure(1, 4));
        CHECK.noIndex("tree -1, what -1", () -> x.measure(-1, -1));
    }
}
