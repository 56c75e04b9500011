/** Promise 7: choose. */
public final class Promise07ChooseTest {
    private static final Check CHECK = new Check("Promise 7");

    public static void main(String[] args) {
        CHECK.test("A rule is chosen, or not: whether that is new", Promise07ChooseTest::isNew);
        CHECK.test("A rule is chosen, or not: that one alone", Promise07ChooseTest::apart);
        CHECK.test("A rule may be used if it is CHOSEN", Promise07ChooseTest::runs);
        CHECK.test("IndexOutOfBoundsException: no such rule", Promise07ChooseTest::noSuchRule);
        CHECK.test("no such rule, when there are none and when there are 16", Promise07ChooseTest::noneAndAll);
        CHECK.test("nothing changes", Promise07ChooseTest::refused);
        CHECK.end();
    }

    private static Counted withRules(int many) {
        Counted x = new Counted();
        int a = x.leaf(0);
        int f = x.node(0, a, -1);
        for (int n = 0; n < many; n++) {
            x.rule(f, a, -1);
        }
        return x;
    }

    private static void isNew() {
        Counted x = withRules(1);
        CHECK.no("a new rule is chosen", () -> x.choose(0, true));
        CHECK.yes("not chosen any more", () -> x.choose(0, false));
        CHECK.no("not chosen, again", () -> x.choose(0, false));
        CHECK.yes("chosen", () -> x.choose(0, true));
        CHECK.no("chosen, again", () -> x.choose(0, true));
    }

    private static void apart() {
        Counted x = withRules(16);
        x.choose(0, false);
        x.choose(15, false);
        for (int rule = 0; rule < 16; rule++) {
            int r = rule;
            CHECK.due("usable(" + r + ")", () -> x.usable(r), r > 0 && r < 15);
        }
    }

    private static void runs() {
        Counted x = withRules(2);
        x.rewrite(1, 200);
        CHECK.due("by rule 0", () -> x.row(0, 0), 0);
        x.choose(0, false);
        x.rewrite(1, 200);
        CHECK.due("by rule 1", () -> x.row(0, 0), 1);
        x.choose(1, false);
        CHECK.due("by none", () -> x.rewrite(1, 200), 1);
        x.choose(0, true);
        CHECK.due("by rule 0 again", () -> x.rewrite(1, 200), 0);
    }

    private static void noSuchRule() {
        Counted x = withRules(2);
        CHECK.noIndex("rule -1", () -> x.choose(-1, true));
        CHECK.noIndex("rule -1, not", () -> x.choose(-1, false));
        CHECK.noIndex("rule 2", () -> x.choose(2, true));
        CHECK.noIndex("rule 2, not", () -> x.choose(2, false));
        CHECK.noIndex("the lowest int", () -> x.choose(Integer.MIN_VALUE, true));
        CHECK.noIndex("the highest int", () -> x.choose(Integer.MAX_VALUE, true));
        CHECK.yes("rule 1, the last", () -> x.choose(1, false));
    }

    private static void noneAndAll() {
        Counted none = new Counted();
        CHECK.noIndex("none: rule 0", () -> none.choose(0, true));
        Counted all = withRules(16);
        CHECK.yes("all: rule 15", () -> all.choose(15, false));
        CHECK.noIndex("all: rule 16", () -> all.choose(16, false));
    }

    private static void refused() {
        Counted x = withRules(2);
        x.choose(0, false);
        CHECK.nothingChanges(x, () -> {
            CHECK.noIndex("rule -1", () -> x.choose(-1, true));
            CHECK.noIndex("rule 2", () -> x.choose(2, false));
        });
        x.rule(1, 0, -1);
        CHECK.yes("rule 2 is chosen when it is new", () -> x.usable(2));
    }
}
