/** Promise 6: holds. */
public final class Promise06HoldsTest {
    private static final Check CHECK = new Check("Promise 6");

    public static void main(String[] args) {
        CHECK.test("Answers are 1 yes, 0 no, 2 open: whether it is another one", Promise06HoldsTest::anotherOne);
        CHECK.test("at first open", Promise06HoldsTest::openAtFirst);
        CHECK.test("An answer to a condition: to that one alone", Promise06HoldsTest::apart);
        CHECK.test("IllegalArgumentException: there is no such condition", Promise06HoldsTest::noSuchCondition);
        CHECK.test("IllegalArgumentException: there is no such answer", Promise06HoldsTest::noSuchAnswer);
        CHECK.test("nothing changes", Promise06HoldsTest::refused);
        CHECK.end();
    }

    private static void anotherOne() {
        Counted x = new Counted();
        for (int condition = 0; condition < 10; condition++) {
            int c = condition;
            CHECK.yes("open, then yes", () -> x.holds(c, 1));
            CHECK.no("yes again", () -> x.holds(c, 1));
            CHECK.yes("no", () -> x.holds(c, 0));
            CHECK.no("no again", () -> x.holds(c, 0));
            CHECK.yes("open", () -> x.holds(c, 2));
            CHECK.no("open again", () -> x.holds(c, 2));
            CHECK.yes("open, then no", () -> x.holds(c, 0));
            CHECK.yes("no, then yes", () -> x.holds(c, 1));
            CHECK.yes("yes, then open", () -> x.holds(c, 2));
        }
    }

    private static void openAtFirst() {
        Counted x = new Counted();
        for (int condition = 0; condition < 10; condition++) {
            int c = condition;
            CHECK.no("open to " + c, () -> x.holds(c, 2));
        }
        Counted y = new Counted();
        for (int condition = 0; condition < 10; condition++) {
            int c = condition;
            CHECK.yes("no to " + c, () -> y.holds(c, 0));
        }
    }

    private static void apart() {
        Counted x = new Counted();
        int f = x.node(0, x.leaf(0), -1);
        for (int condition = 0; condition < 10; condition++) {
            x.rule(f, f, condition);
        }
        for (int condition = 0; condition < 10; condition++) {
            x.holds(condition, 1);
            for (int rule = 0; rule < 10; rule++) {
                int r = rule;
                CHECK.due("yes to " + condition + ": usable(" + r + ")", () -> x.usable(r), r == condition);
            }
            x.holds(condition, condition % 2 * 2);
        }
    }

    private static void noSuchCondition() {
        Counted x = new Counted();
        for (int answer = 0; answer < 3; answer++) {
            int a = answer;
            CHECK.noArgument("condition -1", () -> x.holds(-1, a));
            CHECK.noArgument("condition 10", () -> x.holds(10, a));
        }
        CHECK.noArgument("the lowest int", () -> x.holds(Integer.MIN_VALUE, 1));
        CHECK.noArgument("the highest int", () -> x.holds(Integer.MAX_VALUE, 1));
        CHECK.yes("condition 0", () -> x.holds(0, 1));
        CHECK.yes("condition 9", () -> x.holds(9, 1));
    }

    private static void noSuchAnswer() {
        Counted x = new Counted();
        for (int condition = 0; condition < 10; condition++) {
            int c = condition;
            CHECK.noArgument("answer -1", () -> x.holds(c, -1));
            CHECK.noArgument("answer 3", () -> x.holds(c, 3));
        }
        CHECK.noArgument("the lowest int", () -> x.holds(0, Integer.MIN_VALUE));
        CHECK.noArgument("the highest int", () -> x.holds(0, Integer.MAX_VALUE));
        CHECK.noArgument("neither is there", () -> x.holds(10, 3));
    }

    private static void refused() {
        Counted x = new Counted();
        int f = x.node(0, x.leaf(0), -1);
        x.rule(f, f, 0);
        x.rule(f, f, 9);
        x.holds(9, 1);
        CHECK.nothingChanges(x, () -> {
            CHECK.noArgument("condition -1", () -> x.holds(-1, 1));
            CHECK.noArgument("condition 10", () -> x.holds(10, 0));
            CHECK.noArgument("answer 3 to condition 9", () -> x.holds(9, 3));
            CHECK.noArgument("answer -1 to condition 0", () -> x.holds(0, -1));
        });
        CHECK.no("condition 9 is answered by yes", () -> x.holds(9, 1));
        CHECK.no("condition 0 is open", () -> x.holds(0, 2));
    }
}
