/** Promise 19: at. */
public final class Promise19AtTest {
    private static final Check CHECK = new Check("Promise 19");

    public static void main(String[] args) {
        CHECK.test("PLACES: itself, then those of its first part, then those of its second one", Promise19AtTest::places);
        CHECK.test("PLACES of a tree are numbered from 0", Promise19AtTest::itself);
        CHECK.test("-1 if there is none such", Promise19AtTest::noSuchPlace);
        CHECK.test("-1 if there is none such, of the largest tree", Promise19AtTest::largest);
        CHECK.test("-1 if there is none such, of the deepest tree", Promise19AtTest::deepest);
        CHECK.test("IndexOutOfBoundsException: no such tree", Promise19AtTest::noSuchTree);
        CHECK.end();
    }

    private static void places() {
        Counted x = new Counted();
        int a = x.leaf(0);
        int h = x.hole(0);
        int f = x.node(0, a, -1);
        int p = x.node(6, f, h);
        int q = x.node(7, p, p);
        int[] due = {q, p, f, a, h, p, f, a, h};
        for (int place = 0; place < due.length; place++) {
            int k = place;
            CHECK.due("at(q, " + k + ")", () -> x.at(q, k), due[k]);
        }
        CHECK.due("at(q, 9)", () -> x.at(q, 9), -1);
    }

    private static void itself() {
        Counted x = new Counted();
        int a = x.leaf(0);
        int h = x.hole(0);
        int f = x.node(5, h, -1);
        int p = x.node(6, a, h);
        for (int tree : new int[] {a, h, f, p}) {
            CHECK.due("place 0 of " + tree, () -> x.at(tree, 0), tree);
        }
    }

    private static void noSuchPlace() {
        Counted x = new Counted();
        int a = x.leaf(0);
        int h = x.hole(0);
        int f = x.node(5, a, -1);
        int p = x.node(6, f, h);
        int[][] lasts = {{a, 0, a}, {h, 0, h}, {f, 1, a}, {p, 3, h}};
        for (int[] last : lasts) {
            CHECK.due("the last place of " + last[0], () -> x.at(last[0], last[1]), last[2]);
            CHECK.due("the next", () -> x.at(last[0], last[1] + 1), -1);
            CHECK.due("place -1", () -> x.at(last[0], -1), -1);
            CHECK.due("the lowest int", () -> x.at(last[0], Integer.MIN_VALUE), -1);
            CHECK.due("the highest int", () -> x.at(last[0], Integer.MAX_VALUE), -1);
        }
    }

    private static void largest() {
        Counted x = new Counted();
        int w1000 = Scenes.heavy(x, 1000);
        CHECK.due("place 999", () -> x.head(x.at(w1000, 999)), -1);
        CHECK.due("place 1000", () -> x.at(w1000, 1000), -1);
        CHECK.due("place 1", () -> x.measure(x.at(w1000, 1), 0), 999);
        CHECK.due("place 2", () -> x.measure(x.at(w1000, 2), 0), 499);
        CHECK.due("place 501", () -> x.measure(x.at(w1000, 501), 0), 499);
        CHECK.due("place 500", () -> x.at(w1000, 500), x.leaf(0));
    }

    private static void deepest() {
        Counted x = new Counted();
        int a = x.leaf(0);
        int b = x.leaf(1);
        int d30 = Scenes.around(x, 0, a, 30);
        CHECK.due("place 30", () -> x.at(d30, 30), a);
        CHECK.due("place 31", () -> x.at(d30, 31), -1);
        int now = a;
        for (int n = 0; n < 30; n++) {
            now = x.node(6, b, now);
        }
        int right = now;
        CHECK.due("the last of second parts", () -> x.at(right, 60), a);
        CHECK.due("the one ahead of it", () -> x.at(right, 59), b);
        CHECK.due("behind it", () -> x.at(right, 61), -1);
    }

    private static void noSuchTree() {
        Counted x = new Counted();
        CHECK.noIndex("none yet", () -> x.at(0, 0));
        int a = x.leaf(0);
        CHECK.noIndex("tree -1", () -> x.at(-1, 0));
        CHECK.noIndex("tree 1", () -> x.at(1, 0));
        CHECK.noIndex("tree 1, and no such place", () -> x.at(1, -1));
        CHECK.noIndex("the lowest int", () -> x.at(Integer.MIN_VALUE, 0));
        CHECK.noIndex("the highest int", () -> x.at(Integer.MAX_VALUE, 0));
        Scenes.fill(x, a, 300);
        CHECK.due("tree 299", () -> x.at(299, 0), 299);
        CHECK.noIndex("tree 300", () -> x.at(300, 0));
    }
}
