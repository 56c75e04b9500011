/** Promise 20: head. */
public final class Promise20HeadTest {
    private static final Check CHECK = new Check("Promise 20");

    public static void main(String[] args) {
        CHECK.test("-1 - name of a leaf", Promise20HeadTest::leaves);
        CHECK.test("100 and the name of a hole", Promise20HeadTest::holes);
        CHECK.test("the head of a node", Promise20HeadTest::nodes);
        CHECK.test("IndexOutOfBoundsException: no such tree", Promise20HeadTest::noSuchTree);
        CHECK.end();
    }

    private static void leaves() {
        Counted x = new Counted();
        for (int name = 0; name < 20; name++) {
            int n = name;
            CHECK.due("of leaf " + n, () -> x.head(x.leaf(n)), -1 - n);
        }
    }

    private static void holes() {
        Counted x = new Counted();
        for (int name = 0; name < 6; name++) {
            int n = name;
            CHECK.due("of hole " + n, () -> x.head(x.hole(n)), 100 + n);
        }
    }

    private static void nodes() {
        Counted x = new Counted();
        int a = x.leaf(0);
        for (int head = 0; head < 12; head++) {
            int n = head;
            CHECK.due("of head " + n, () -> x.head(x.node(n, a, n < 6 ? -1 : a)), n);
        }
    }

    private static void noSuchTree() {
        Counted x = new Counted();
        CHECK.noIndex("none yet", () -> x.head(0));
        int a = x.leaf(0);
        CHECK.noIndex("tree -1", () -> x.head(-1));
        CHECK.noIndex("tree 1", () -> x.head(1));
        CHECK.noIndex("the lowest int", () -> x.head(Integer.MIN_VALUE));
        CHECK.noIndex("the highest int", () -> x.head(Integer.MAX_VALUE));
        Scenes.fill(x, a, 300);
        CHECK.due("tree 299", () -> x.head(299), 10);
        CHECK.noIndex("tree 300", () -> x.head(300));
    }
}
