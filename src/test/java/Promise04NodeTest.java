/** Promise 4: node. */
public final class Promise04NodeTest {
    private static final Check CHECK = new Check("Promise 4");

    public static void main(String[] args) {
        CHECK.test("a NODE has a HEAD, 0 .. 11", Promise04NodeTest::heads);
        CHECK.test("one PART (heads 0 .. 5) or two (6 .. 11)", Promise04NodeTest::parts);
        CHECK.test("IllegalArgumentException: there is no such head", Promise04NodeTest::noSuchHead);
        CHECK.test("IllegalArgumentException: it has one part and b isn't -1", Promise04NodeTest::aPartTooMany);
        CHECK.test("IndexOutOfBoundsException: a part isn't there", Promise04NodeTest::missingParts);
        CHECK.test("b may be -1 for heads below 6 only", Promise04NodeTest::withoutSecond);
        CHECK.test("equal ones are one", Promise04NodeTest::equalOnes);
        CHECK.test("A new tree gets the next number", Promise04NodeTest::nextNumber);
        CHECK.test("Trees are at most 30 deep", Promise04NodeTest::deepest);
        CHECK.test("Trees weigh 1000 at most", Promise04NodeTest::heaviest);
        CHECK.test("TREES have numbers, 0 .. 299", Promise04NodeTest::lastNumber);
        CHECK.test("IllegalStateException: there would be more than 300 trees", Promise04NodeTest::oneTooMany);
        CHECK.test("Of several the first: IndexOutOfBoundsException", Promise04NodeTest::indexFirst);
        CHECK.test("Of several the first: IllegalArgumentException", Promise04NodeTest::argumentFirst);
        CHECK.test("nothing changes", Promise04NodeTest::refused);
        CHECK.end();
    }

    private static void heads() {
        Counted x = new Counted();
        int a = x.leaf(0);
        int b = x.leaf(1);
        for (int head = 0; head < 12; head++) {
            int h = head;
            CHECK.due("node(" + h + ", ..)", () -> x.node(h, a, h < 6 ? -1 : b), 2 + h);
            CHECK.due("its head", () -> x.head(2 + h), h);
        }
    }

    private static void parts() {
        Counted x = new Counted();
        int a = x.leaf(0);
        int b = x.leaf(1);
        int one = x.node(5, b, -1);
        int two = x.node(6, b, a);
        CHECK.due("places of head 5", () -> x.measure(one, 1), 2);
        CHECK.due("its part", () -> x.at(one, 1), b);
        CHECK.due("places of head 6", () -> x.measure(two, 1), 3);
        CHECK.due("its first part", () -> x.at(two, 1), b);
        CHECK.due("its second part", () -> x.at(two, 2), a);
        CHECK.due("both parts may be the same", () -> x.node(11, two, two), 4);
    }

    private static void noSuchHead() {
        Counted x = new Counted();
        x.leaf(0);
        CHECK.noArgument("head -1", () -> x.node(-1, 0, -1));
        CHECK.noArgument("head -1 with two parts", () -> x.node(-1, 0, 0));
        CHECK.noArgument("head 12", () -> x.node(12, 0, 0));
        CHECK.noArgument("head 100", () -> x.node(100, 0, 0));
        CHECK.noArgument("the lowest int", () -> x.node(Integer.MIN_VALUE, 0, -1));
        CHECK.noArgument("the highest int", () -> x.node(Integer.MAX_VALUE, 0, 0));
    }

    private static void aPartTooMany() {
        Counted x = new Counted();
        x.leaf(0);
        CHECK.noArgument("head 0 with two parts", () -> x.node(0, 0, 0));
        CHECK.noArgument("head 5 with two parts", () -> x.node(5, 0, 0));
        CHECK.due("head 5 with one", () -> x.node(5, 0, -1), 1);
        CHECK.due("head 6 with two", () -> x.node(6, 0, 0), 2);
    }

    private static void missingParts() {
        Counted x = new Counted();
        x.leaf(0);
        x.leaf(1);
        CHECK.noIndex("a is 2, of one part", () -> x.node(0, 2, -1));
        CHECK.noIndex("a is -1, of one part", () -> x.node(0, -1, -1));
        CHECK.noIndex("a is 2, of two parts", () -> x.node(6, 2, 0));
        CHECK.noIndex("a is -1, of two parts", () -> x.node(6, -1, 0));
        CHECK.noIndex("b is 2", () -> x.node(6, 0, 2));
        CHECK.noIndex("b is -2", () -> x.node(6, 0, -2));
        CHECK.noIndex("a is the highest int", () -> x.node(6, Integer.MAX_VALUE, 0));
        CHECK.noIndex("b is the lowest int", () -> x.node(6, 0, Integer.MIN_VALUE));
        CHECK.due("a is the last tree", () -> x.node(0, 1, -1), 2);
        CHECK.due("b is the last tree", () -> x.node(6, 0, 2), 3);
    }

    private static void withoutSecond() {
        Counted x = new Counted();
        x.leaf(0);
        CHECK.due("head 0", () -> x.node(0, 0, -1), 1);
        CHECK.due("head 5", () -> x.node(5, 0, -1), 2);
        CHECK.noIndex("head 6", () -> x.node(6, 0, -1));
        CHECK.noIndex("head 11", () -> x.node(11, 0, -1));
        CHECK.noIndex("head 12, which isn't below 6 either", () -> x.node(12, 0, -1));
        CHECK.noIndex("b is -2, head 0", () -> x.node(0, 0, -2));
        CHECK.noIndex("b is -2, head 5", () -> x.node(5, 0, -2));
    }

    private static void equalOnes() {
        Counted x = new Counted();
        int a = x.leaf(0);
        int b = x.leaf(1);
        CHECK.due("one part", () -> x.node(0, a, -1), 2);
        CHECK.due("the same", () -> x.node(0, a, -1), 2);
        CHECK.due("another head", () -> x.node(1, a, -1), 3);
        CHECK.due("another part", () -> x.node(0, b, -1), 4);
        CHECK.due("two parts", () -> x.node(6, a, b), 5);
        CHECK.due("the same two", () -> x.node(6, a, b), 5);
        CHECK.due("the other way round", () -> x.node(6, b, a), 6);
        CHECK.due("another head for two", () -> x.node(7, a, b), 7);
        CHECK.due("another second part", () -> x.node(6, a, a), 8);
        CHECK.due("another first part", () -> x.node(6, b, b), 9);
        CHECK.due("the first of all once more", () -> x.node(0, a, -1), 2);
        CHECK.due("trees", () -> x.count(0), 10);
    }

    private static void nextNumber() {
        Counted x = new Counted();
        x.leaf(0);
        CHECK.noArgument("a refused one", () -> x.node(12, 0, 0));
        CHECK.due("the next behind a refused one", () -> x.node(0, 0, -1), 1);
        CHECK.due("one that is there", () -> x.node(0, 0, -1), 1);
        CHECK.due("the next behind that", () -> x.node(0, 1, -1), 2);
    }

    private static void deepest() {
        Counted x = new Counted();
        int a = x.leaf(0);
        int h = x.hole(0);
        int d29 = Scenes.around(x, 0, a, 29);
        int d30 = x.node(0, d29, -1);
        CHECK.due("30 deep", () -> x.measure(d30, 2), 30);
        CHECK.noState("31 deep by one part", () -> x.node(0, d30, -1));
        CHECK.noState("31 deep by the first part", () -> x.node(6, d30, a));
        CHECK.noState("31 deep by the second part", () -> x.node(6, a, d30));
        CHECK.noState("31 deep by both", () -> x.node(6, d30, d30));
        CHECK.due("30 deep by the first part", () -> x.measure(x.node(6, d29, a), 2), 30);
        CHECK.due("30 deep by the second part", () -> x.measure(x.node(6, a, d29), 2), 30);
        int h30 = Scenes.around(x, 0, h, 30);
        CHECK.due("30 deep above a hole", () -> x.measure(h30, 2), 30);
        CHECK.noState("31 deep above a hole", () -> x.node(1, h30, -1));
    }

    private static void heaviest() {
        Counted x = new Counted();
        int w499 = Scenes.heavy(x, 499);
        int w500 = Scenes.heavy(x, 500);
        int w999 = Scenes.heavy(x, 999);
        int w1000 = x.node(0, w999, -1);
        CHECK.due("999", () -> x.measure(w999, 0), 999);
        CHECK.due("1000 by a head of weight 1", () -> x.measure(w1000, 0), 1000);
        CHECK.noState("1001 by a head of weight 1", () -> x.node(1, w1000, -1));
        CHECK.noState("1002 by a head of weight 2", () -> x.node(2, w1000, -1));
        CHECK.noState("1001 by a head of weight 2", () -> x.node(2, w999, -1));
        CHECK.due("1000 by two parts", () -> x.measure(x.node(6, w499, w500), 0), 1000);
        CHECK.noState("1001 by two parts", () -> x.node(6, w500, w500));
        CHECK.due("1000 by two parts and a head of weight 2", () -> x.measure(x.node(8, w499, w499), 0), 1000);
        CHECK.noState("1001 by two parts and a head of weight 2", () -> x.node(8, w499, w500));
        CHECK.noState("2001 by two parts", () -> x.node(6, w1000, w1000));
    }

    private static void lastNumber() {
        Counted x = new Counted();
        int a = x.leaf(0);
        Scenes.fill(x, a, 299);
        CHECK.due("the 300th tree", () -> x.node(0, a, -1), 299);
        CHECK.due("its head", () -> x.head(299), 0);
        CHECK.noIndex("there is no tree 300", () -> x.node(0, 300, -1));
    }

    private static void oneTooMany() {
        Counted x = new Counted();
        int a = x.leaf(0);
        Scenes.fill(x, a, 300);
        CHECK.noState("a 301st tree", () -> x.node(0, a, -1));
        CHECK.noState("a 301st tree of two parts", () -> x.node(6, a, a));
        CHECK.due("one that is there", () -> x.node(10, a, a), 1);
        CHECK.noState("of the last tree", () -> x.node(0, 299, -1));
    }

    private static void indexFirst() {
        Counted x = new Counted();
        x.leaf(0);
        CHECK.noIndex("head 12 and no a", () -> x.node(12, 1, 0));
        CHECK.noIndex("head 12 and no b", () -> x.node(12, 0, 1));
        CHECK.noIndex("head -1 and no a", () -> x.node(-1, 1, -1));
        CHECK.noIndex("head -1 and no b", () -> x.node(-1, 0, 1));
        CHECK.noIndex("head 5 with a second part that isn't there", () -> x.node(5, 0, 1));
        Scenes.fill(x, 0, 300);
        CHECK.noIndex("no a, and no room", () -> x.node(0, 300, -1));
        CHECK.noIndex("no b, and no room", () -> x.node(6, 0, 300));
    }

    private static void argumentFirst() {
        Counted x = new Counted();
        int a = x.leaf(0);
        int d30 = Scenes.around(x, 0, a, 30);
        int w1000 = Scenes.heavy(x, 1000);
        CHECK.noArgument("no such head, and too deep", () -> x.node(12, d30, d30));
        CHECK.noArgument("a part too many, and too deep", () -> x.node(5, d30, a));
        CHECK.noArgument("no such head, and too heavy", () -> x.node(-1, w1000, -1));
        Scenes.fill(x, a, 300);
        CHECK.noArgument("no such head, and no room", () -> x.node(12, a, a));
        CHECK.noArgument("a part too many, and no room", () -> x.node(0, a, a));
    }

    private static void refused() {
        Counted x = new Counted();
        int a = x.leaf(0);
        int d30 = Scenes.around(x, 0, a, 30);
        int w1000 = Scenes.heavy(x, 1000);
        CHECK.nothingChanges(x, () -> {
            CHECK.noIndex("no such part", () -> x.node(6, a, -1));
            CHECK.noArgument("no such head", () -> x.node(12, a, a));
            CHECK.noArgument("a part too many", () -> x.node(5, a, a));
            CHECK.noState("too deep", () -> x.node(0, d30, -1));
            CHECK.noState("too heavy", () -> x.node(0, w1000, -1));
        });
        Scenes.fill(x, a, 300);
        CHECK.nothingChanges(x, () -> CHECK.noState("no room", () -> x.node(9, a, a)));
        CHECK.noIndex("there is no tree 300", () -> x.head(300));
    }
}
