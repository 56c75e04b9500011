/** Promise 16: usable. */
public final class Promise16UsableTest {
    private static final Check CHECK = new Check("Promise 16");

    public static void main(String[] args) {
        CHECK.test("A rule may be used if it is CHOSEN and has no condition", Promise16UsableTest::withoutCondition);
        CHECK.test("or one whose answer is yes", Promise16UsableTest::withCondition);
        CHECK.test("CHOSEN and yes: neither alone", Promise16UsableTest::neitherAlone);
        CHECK.test("IndexOutOfBoundsException: no such rule", Promise16UsableTest::noSuchRule);
        CHECK.test("no such rule, when there are none and when there are 16", Promise16UsableTest::noneAndAll);
        CHECK.end();
    }

    private static Counted withRule(int condition) {
        Counted x = new Counted();
        int f = x.node(0, x.leaf(0), -1);
        x.rule(f, f, condition);
        return x;
    }

    private static void withoutCondition() {
        Counted x = withRule(-1);
        CHECK.yes("a new one", () -> x.usable(0));
        x.choose(0, false);
        CHECK.no("not chosen", () -> x.usable(0));
        x.choose(0, true);
        CHECK.yes("chosen again", () -> x.usable(0));
        for (int condition = 0; condition < 10; condition++) {
            x.holds(condition, 0);
        }
        CHECK.yes("no answer matters to it", () -> x.usable(0));
    }

    private static void withCondition() {
        for (int condition = 0; condition < 10; condition++) {
            int c = condition;
            Counted x = withRule(c);
            CHECK.no(c + " is open at first", () -> x.usable(0));
            x.holds(c, 1);
            CHECK.yes(c + " yes", () -> x.usable(0));
            x.holds(c, 0);
            CHECK.no(c + " no", () -> x.usable(0));
            x.holds(c, 1);
            x.holds(c, 2);
            CHECK.no(c + " open", () -> x.usable(0));
        }
        Counted x = new Counted();
        x.holds(9, 1);
        int f = x.node(0, x.leaf(0), -1);
        x.rule(f, f, 9);
        CHECK.yes("answered before it was made", () -> x.usable(0));
    }

    private static void neitherAlone() {
        Counted x = withRule(4);
        x.choose(0, false);
        CHECK.no("neither", () -> x.usable(0));
        x.holds(4, 1);
        CHECK.no("yes, but not chosen", () -> x.usable(0));
        x.choose(0, true);
        CHECK.yes("both", () -> x.usable(0));
        x.holds(4, 0);
        CHECK.no("chosen, but no", () -> x.usable(0));
    }

    private static void noSuchRule() {
        Counted x = withRule(-1);
        CHECK.noIndex("rule -1", () -> x.usable(-1));
        CHECK.yes("rule 0", () -> x.usable(0));
        CHECK.noIndex("rule 1", () -> x.usable(1));
        CHECK.noIndex("the lowest int", () -> x.usable(Integer.MIN_VALUE));
        CHECK.noIndex("the highest int", () -> x.usable(Integer.MAX_VALUE));
    }

    private static void noneAndAll() {
        Counted x = new Counted();
        CHECK.noIndex("none: rule 0", () -> x.usable(0));
        int f = x.node(0, x.leaf(0), -1);
        for (int n = 0; n < 17; n++) {
            x.rule(f, f, -1);
        }
        CHECK.yes("all: rule 15", () -> x.usable(15));
        CHECK.noIndex("all: rule 16", () -> x.usable(16));
    }
}
