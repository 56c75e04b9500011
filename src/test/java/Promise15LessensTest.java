/** Promise 15: lessens. */
public final class Promise15LessensTest {
    private static final Check CHECK = new Check("Promise 15");

    public static void main(String[] args) {
        CHECK.test("It LESSENS if its left tree is ABOVE its right one", Promise15LessensTest::leftAboveRight);
        CHECK.test("Whether a rule lessens, used or not", Promise15LessensTest::usedOrNot);
        CHECK.test("IndexOutOfBoundsException: no such rule", Promise15LessensTest::noSuchRule);
        CHECK.test("no such rule, when there are none and when there are 16", Promise15LessensTest::noneAndAll);
        CHECK.end();
    }

    private static void leftAboveRight() {
        Counted x = new Counted();
        int h = x.hole(0);
        int f = x.node(0, h, -1);
        int g = x.node(1, h, -1);
        int p = x.node(6, h, h);
        int q = x.node(11, h, x.hole(1));
        int[][] rules = {{g, f, 1}, {f, g, 0}, {f, f, 0}, {p, h, 1}, {f, p, 0}, {q, p, 0}, {p, f, 1}};
        for (int k = 0; k < rules.length; k++) {
            int n = k;
            x.rule(rules[n][0], rules[n][1], -1);
            CHECK.due("lessens(" + n + ")", () -> x.lessens(n), rules[n][2] == 1);
            CHECK.due("as its trees", () -> x.above(rules[n][0], rules[n][1]), rules[n][2] == 1);
        }
    }

    private static void usedOrNot() {
        Counted x = new Counted();
        int a = x.leaf(0);
        int f = x.node(0, a, -1);
        x.rule(f, a, 3);
        x.rule(f, f, -1);
        CHECK.yes("open", () -> x.lessens(0));
        x.holds(3, 0);
        CHECK.yes("no", () -> x.lessens(0));
        x.choose(0, false);
        CHECK.yes("not chosen", () -> x.lessens(0));
        CHECK.no("one that is used", () -> x.lessens(1));
    }

    private static void noSuchRule() {
        Counted x = new Counted();
        int a = x.leaf(0);
        int f = x.node(0, a, -1);
        x.rule(f, f, -1);
        x.rule(f, a, -1);
        CHECK.noIndex("rule -1", () -> x.lessens(-1));
        CHECK.no("rule 0", () -> x.lessens(0));
        CHECK.yes("rule 1", () -> x.lessens(1));
        CHECK.noIndex("rule 2", () -> x.lessens(2));
        CHECK.noIndex("the lowest int", () -> x.lessens(Integer.MIN_VALUE));
        CHECK.noIndex("the highest int", () -> x.lessens(Integer.MAX_VALUE));
    }

    private static void noneAndAll() {
        Counted x = new Counted();
        CHECK.noIndex("none: rule 0", () -> x.lessens(0));
        int a = x.leaf(0);
        int f = x.node(0, a, -1);
        for (int n = 0; n < 16; n++) {
            x.rule(f, a, -1);
        }
        CHECK.yes("all: rule 15", () -> x.lessens(15));
        CHECK.noIndex("all: rule 16", () -> x.lessens(16));
    }
}
