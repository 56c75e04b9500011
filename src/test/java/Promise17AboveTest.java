/** Promise 17: above. */
public final class Promise17AboveTest {
    private static final Check CHECK = new Check("Promise 17");

    public static void main(String[] args) {
        CHECK.test("each hole stands in s at least as often as in t", Promise17AboveTest::holesAsOften);
        CHECK.test("each of the six holes", Promise17AboveTest::eachHole);
        CHECK.test("either s is heavier", Promise17AboveTest::heavier);
        CHECK.test("or they weigh the same", Promise17AboveTest::sameWeight);
        CHECK.test("both are leaves, and the name of s is higher", Promise17AboveTest::leaves);
        CHECK.test("a node and a leaf", Promise17AboveTest::nodeAndLeaf);
        CHECK.test("both are nodes, and the head of s is higher", Promise17AboveTest::heads);
        CHECK.test("of the first parts that differ that of s is ABOVE that of t", Promise17AboveTest::parts);
        CHECK.test("of the first parts that differ, 30 deep", Promise17AboveTest::deepParts);
        CHECK.test("of the first parts that differ: holes are asked there too", Promise17AboveTest::holesOfParts);
        CHECK.test("For a hole none of these last ones holds", Promise17AboveTest::holes);
        CHECK.test("A tree isn't above itself", Promise17AboveTest::itself);
        CHECK.test("IndexOutOfBoundsException: no such tree", Promise17AboveTest::noSuchTree);
        CHECK.end();
    }

    private static void holesAsOften() {
        Counted x = new Counted();
        int a = x.leaf(0);
        int h = x.hole(0);
        int hh = x.node(6, h, h);
        CHECK.yes("as often, heavier", () -> x.above(x.node(8, h, h), hh));
        CHECK.no("once less, heavier", () -> x.above(x.node(8, h, a), hh));
        CHECK.yes("once more, heavier", () -> x.above(x.node(8, h, h), x.node(6, h, a)));
        CHECK.no("none, heavier", () -> x.above(x.node(8, a, a), h));
        CHECK.yes("one, heavier", () -> x.above(x.node(8, a, h), h));
        CHECK.yes("as often, the higher head", () -> x.above(x.node(7, h, h), hh));
        CHECK.no("once less, the higher head", () -> x.above(x.node(7, h, a), hh));
    }

    private static void eachHole() {
        Counted x = new Counted();
        int a = x.leaf(0);
        for (int name = 0; name < 6; name++) {
            int h = x.hole(name);
            int other = x.hole((name + 1) % 6);
            CHECK.yes("hole " + name, () -> x.above(x.node(6, a, h), h));
            CHECK.no("hole " + name + " isn't there", () -> x.above(x.node(6, a, other), h));
            CHECK.yes("hole " + name + " more often", () -> x.above(x.node(6, h, h), x.node(0, a, -1)));
        }
    }

    private static void heavier() {
        Counted x = new Counted();
        int a = x.leaf(0);
        int b = x.leaf(19);
        int high = x.node(4, b, -1);
        int low = x.node(2, a, -1);
        CHECK.yes("by one, though the head is lower", () -> x.above(low, high));
        CHECK.no("lighter by one", () -> x.above(high, low));
        CHECK.yes("a node of two leaves", () -> x.above(x.node(6, a, a), high));
        int w1000 = Scenes.heavy(x, 1000);
        int w999 = x.at(w1000, 1);
        CHECK.yes("1000 and 999", () -> x.above(w1000, w999));
        CHECK.no("999 and 1000", () -> x.above(w999, w1000));
    }

    private static void sameWeight() {
        Counted x = new Counted();
        int a = x.leaf(0);
        int b = x.leaf(1);
        int three = x.node(0, x.node(3, b, -1), -1);
        int two = x.node(5, a, -1);
        CHECK.yes("3 each: the head decides", () -> x.above(two, three));
        CHECK.no("3 each, the other way", () -> x.above(three, two));
        CHECK.no("4 and 3: the weight does", () -> x.above(two, x.node(0, three, -1)));
    }

    private static void leaves() {
        Counted x = new Counted();
        for (int name = 0; name < 20; name++) {
            x.leaf(name);
        }
        CHECK.yes("1 and 0", () -> x.above(1, 0));
        CHECK.no("0 and 1", () -> x.above(0, 1));
        CHECK.yes("19 and 18", () -> x.above(19, 18));
        CHECK.no("18 and 19", () -> x.above(18, 19));
        CHECK.yes("19 and 0", () -> x.above(19, 0));
        CHECK.no("0 and 0", () -> x.above(0, 0));
    }

    private static void nodeAndLeaf() {
        Counted x = new Counted();
        int a = x.leaf(0);
        int b = x.leaf(19);
        int f = x.node(0, a, -1);
        CHECK.yes("a node and the highest leaf", () -> x.above(f, b));
        CHECK.no("the highest leaf and a node", () -> x.above(b, f));
    }

    private static void heads() {
        Counted x = new Counted();
        int a = x.leaf(0);
        int b = x.leaf(1);
        CHECK.yes("1 and 0, though the part is lower", () -> x.above(x.node(1, a, -1), x.node(0, b, -1)));
        CHECK.no("0 and 1", () -> x.above(x.node(0, b, -1), x.node(1, a, -1)));
        CHECK.yes("11 and 8", () -> x.above(x.node(11, a, a), x.node(8, b, b)));
        CHECK.no("8 and 11", () -> x.above(x.node(8, b, b), x.node(11, a, a)));
        CHECK.yes("6 and 5: two parts and one", () -> x.above(x.node(6, a, a), x.node(5, b, -1)));
        CHECK.no("5 and 6", () -> x.above(x.node(5, b, -1), x.node(6, a, a)));
    }

    private static void parts() {
        Counted x = new Counted();
        int a = x.leaf(0);
        int b = x.leaf(1);
        int ab = x.node(6, a, b);
        int ba = x.node(6, b, a);
        int bb = x.node(6, b, b);
        CHECK.yes("one part", () -> x.above(x.node(0, b, -1), x.node(0, a, -1)));
        CHECK.no("one part, the other way", () -> x.above(x.node(0, a, -1), x.node(0, b, -1)));
        CHECK.yes("the first part, though the second is lower", () -> x.above(ba, ab));
        CHECK.no("the first part, the other way", () -> x.above(ab, ba));
        CHECK.yes("the second part, if the first is the same", () -> x.above(bb, ba));
        CHECK.no("the second part, the other way", () -> x.above(ba, bb));
        int fa = x.node(0, a, -1);
        CHECK.yes("a heavier first part", () -> x.above(x.node(6, fa, a), x.node(6, b, fa)));
        CHECK.no("a lighter first part", () -> x.above(x.node(6, b, fa), x.node(6, fa, a)));
    }

    private static void deepParts() {
        Counted x = new Counted();
        int a = x.leaf(0);
        int b = x.leaf(1);
        int low = Scenes.around(x, 0, a, 30);
        int high = Scenes.around(x, 0, b, 30);
        CHECK.yes("the leaf within decides", () -> x.above(high, low));
        CHECK.no("the leaf within, the other way", () -> x.above(low, high));
        int lowSecond = a;
        int highSecond = b;
        for (int n = 0; n < 30; n++) {
            lowSecond = x.node(9, a, lowSecond);
            highSecond = x.node(9, a, highSecond);
        }
        int s = highSecond;
        int t = lowSecond;
        CHECK.yes("by second parts", () -> x.above(s, t));
        CHECK.no("by second parts, the other way", () -> x.above(t, s));
    }

    private static void holesOfParts() {
        Counted x = new Counted();
        int a = x.leaf(0);
        int h = x.hole(0);
        int g = x.hole(1);
        CHECK.no("both parts are holes", () -> x.above(x.node(6, h, g), x.node(6, g, h)));
        CHECK.no("the part of s lacks a hole, which stands behind it",
                () -> x.above(x.node(6, x.node(1, a, -1), h), x.node(6, x.node(0, h, -1), a)));
        CHECK.yes("the part of s has it",
                () -> x.above(x.node(6, x.node(1, h, -1), a), x.node(6, x.node(0, h, -1), a)));
        CHECK.no("a hole first, a leaf first", () -> x.above(x.node(6, h, a), x.node(6, a, h)));
        CHECK.no("a leaf first, a hole first", () -> x.above(x.node(6, a, h), x.node(6, h, a)));
    }

    private static void holes() {
        Counted x = new Counted();
        int a = x.leaf(0);
        int b = x.leaf(19);
        int h = x.hole(0);
        int g = x.hole(5);
        CHECK.no("a hole and itself", () -> x.above(h, h));
        CHECK.no("a hole and a lower one", () -> x.above(g, h));
        CHECK.no("a hole and a higher one", () -> x.above(h, g));
        CHECK.no("a hole and the lowest leaf", () -> x.above(h, a));
        CHECK.no("a hole and the highest leaf", () -> x.above(g, b));
        CHECK.no("a leaf and a hole", () -> x.above(b, h));
        CHECK.no("a hole and a node", () -> x.above(h, x.node(0, a, -1)));
        CHECK.yes("a node with that hole", () -> x.above(x.node(0, h, -1), h));
        CHECK.no("a node with another one", () -> x.above(x.node(0, g, -1), h));
        CHECK.no("one part, a hole and a leaf", () -> x.above(x.node(0, h, -1), x.node(0, a, -1)));
    }

    private static void itself() {
        Counted x = new Counted();
        int a = x.leaf(4);
        int h = x.hole(3);
        int n = x.node(8, x.node(5, a, -1), h);
        for (int tree = 0; tree <= n; tree++) {
            int t = tree;
            CHECK.no("tree " + t, () -> x.above(t, t));
        }
    }

    private static void noSuchTree() {
        Counted x = new Counted();
        CHECK.noIndex("none yet", () -> x.above(0, 0));
        x.leaf(0);
        x.leaf(1);
        CHECK.noIndex("s is -1", () -> x.above(-1, 0));
        CHECK.noIndex("t is -1", () -> x.above(0, -1));
        CHECK.noIndex("s is 2", () -> x.above(2, 0));
        CHECK.noIndex("t is 2", () -> x.above(0, 2));
        CHECK.noIndex("both", () -> x.above(-1, -1));
        CHECK.noIndex("the lowest int", () -> x.above(Integer.MIN_VALUE, 0));
        CHECK.noIndex("the highest int", () -> x.above(0, Integer.MAX_VALUE));
        CHECK.yes("the last and the first", () -> x.above(1, 0));
        Scenes.fill(x, 0, 300);
        CHECK.yes("tree 299 and tree 0", () -> x.above(299, 0));
        CHECK.noIndex("tree 300", () -> x.above(300, 0));
        CHECK.noIndex("and tree 300", () -> x.above(0, 300));
    }
}
