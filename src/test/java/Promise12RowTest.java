/** Promise 12: row. */
public final class Promise12RowTest {
    private static final Check CHECK = new Check("Promise 12");

    public static void main(String[] args) {
        CHECK.test("what 0: the rule, 1: the place, 2: the tree ahead, 3: the tree behind", Promise12RowTest::cells);
        CHECK.test("IndexOutOfBoundsException: no such row", Promise12RowTest::noSuchRow);
        CHECK.test("no such row, when there are none", Promise12RowTest::none);
        CHECK.test("no such row, when there are 200", Promise12RowTest::all);
        CHECK.test("IllegalArgumentException: another what", Promise12RowTest::anotherWhat);
        CHECK.test("Of several the one that stands first behind throws", Promise12RowTest::indexFirst);
        CHECK.end();
    }

    private static void cells() {
        Counted x = new Counted();
        int a = x.leaf(0);
        int h = x.hole(0);
        int f = x.node(0, h, -1);
        int g = x.node(1, h, -1);
        x.rule(g, h, -1);
        x.rule(f, g, -1);
        int whole = x.node(6, a, x.node(0, a, -1));
        int last = x.rewrite(whole, 200);
        int between = x.node(6, a, x.node(1, a, -1));
        CHECK.row(x, 0, 1, 2, whole, between);
        CHECK.row(x, 1, 0, 2, between, last);
        CHECK.due("the last", () -> x.node(6, a, a), last);
    }

    private static void noSuchRow() {
        Counted x = Scenes.counter();
        int c3 = Scenes.countdown(x, 3);
        x.rewrite(c3, 200);
        for (int what = 0; what < 4; what++) {
            int w = what;
            CHECK.noIndex("row(-1, " + w + ")", () -> x.row(-1, w));
            CHECK.noIndex("row(3, " + w + ")", () -> x.row(3, w));
        }
        CHECK.noIndex("the lowest int", () -> x.row(Integer.MIN_VALUE, 0));
        CHECK.noIndex("the highest int", () -> x.row(Integer.MAX_VALUE, 0));
        CHECK.due("row 0", () -> x.row(0, 2), c3);
        CHECK.due("row 2", () -> x.row(2, 3), 0);
    }

    private static void none() {
        Counted x = Scenes.counter();
        CHECK.noIndex("no run yet", () -> x.row(0, 0));
        x.rewrite(0, 200);
        CHECK.noIndex("no step", () -> x.row(0, 0));
        x.joins(Scenes.countdown(x, 2), 0);
        CHECK.noIndex("joins() alone", () -> x.row(0, 0));
    }

    private static void all() {
        Counted x = Scenes.counter();
        int c200 = Scenes.countdown(x, 200);
        x.rewrite(c200, 200);
        CHECK.due("row 199", () -> x.row(199, 3), 0);
        CHECK.noIndex("row 200", () -> x.row(200, 0));
        x.normal(Scenes.countdown(x, 201));
        CHECK.due("row 199 of normal()", () -> x.row(199, 3), Scenes.countdown(x, 1));
        CHECK.noIndex("row 200 of normal()", () -> x.row(200, 0));
    }

    private static void anotherWhat() {
        Counted x = Scenes.counter();
        int c3 = Scenes.countdown(x, 3);
        x.rewrite(c3, 200);
        for (int k = 0; k < 3; k++) {
            int n = k;
            CHECK.noArgument("row(" + n + ", -1)", () -> x.row(n, -1));
            CHECK.noArgument("row(" + n + ", 4)", () -> x.row(n, 4));
        }
        CHECK.noArgument("the lowest int", () -> x.row(0, Integer.MIN_VALUE));
        CHECK.noArgument("the highest int", () -> x.row(0, Integer.MAX_VALUE));
    }

    private static void indexFirst() {
        Counted x = Scenes.counter();
        CHECK.noIndex("none, what 4", () -> x.row(0, 4));
        x.rewrite(Scenes.countdown(x, 3), 200);
        CHECK.noIndex("row 3, what 4", () -> x.row(3, 4));
        CHECK.noIndex("row -1, what -1", () -> x.row(-1, -1));
    }
}
