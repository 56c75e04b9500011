/** Random runs of calls, the same ones each time, on RuleSteps and on the model beside it. */
public final class RandomRunsTest {
    private static final int[] STEPS = {0, 1, 2, 3, 7, 20, 199, 200, 200, 200, 201, -1};

    private final Check check = new Check("RandomRunsTest");
    private final int[] outcomes = new int[6];
    private long seed;
    private Counted x;
    private Model m;
    private int kinds;
    private int heads;

    public static void main(String[] args) {
        new RandomRunsTest().all(args.length > 0 ? Integer.parseInt(args[0]) : 200);
    }

    private void all(int runs) {
        for (int run = 0; run < runs && check.wrong() == 0; run++) {
            seed = run * 7919L + 17;
            one(run);
        }
        String[] names = {"runs of 5 steps or more", "spent", "refused runs", "joined", "of 200 rows", "domains"};
        for (int k = 0; k < names.length; k++) {
            check.that("some were: " + names[k] + " (" + outcomes[k] + ")", runs < 200 || outcomes[k] > 0);
        }
        check.end();
    }

    private void one(int run) {
        x = new Counted();
        m = new Model();
        kinds = 1 + next(12);
        heads = 1 + next(4);
        while (x.calls() < Counted.MOST_CALLS && check.wrong() == 0) {
            call("run " + run + " call " + x.calls() + ": ", x.calls());
        }
    }

    private int next(int bound) {
        seed = seed * 6364136223846793005L + 1442695040888963407L;
        return (int) ((seed >>> 33) % bound);
    }

    /** A tree of few heads, so that rules meet; now and then one that isn't there. */
    private int tree() {
        int size = m.count(0);
        int roll = next(40);
        if (roll == 0) {
            return next(3) == 0 ? -1 - next(2) : size + next(2);
        }
        return roll < 20 ? Math.max(0, size - 1 - next(Math.min(size + 1, 12))) : next(size + 1);
    }

    private int head() {
        int pick = next(heads);
        int roll = next(60);
        return roll == 0 ? 12 : roll == 1 ? -1 : new int[] {0, 6, 1, 8}[pick] + (kinds % 3);
    }

    private int second(int head) {
        int roll = next(30);
        return roll == 0 ? -1 : roll == 1 ? tree() : head < 6 ? -1 : tree();
    }

    /** The same call on both; what is asked behind the last call of an object is left out. */
    private void both(String name, Check.Call got, Check.Call want) {
        if (x.calls() < Counted.MOST_CALLS) {
            same(name, got, want);
        }
    }

    private void same(String name, Check.Call got, Check.Call want) {
        check.same(name, Check.outcome(got), Check.outcome(want));
    }

    private void call(String at, int n) {
        int roll = next(n < 40 ? 50 : 200);
        if (roll < 8) {
            makeSmall(at);
        } else if (roll < 36) {
            int head = head();
            int a = tree();
            int b = second(head);
            both(at + "node(" + head + "," + a + "," + b + ")", () -> x.node(head, a, b), () -> m.node(head, a, b));
        } else if (roll < 46) {
            makeRule(at);
        } else if (roll < 62) {
            setRule(at);
        } else if (roll < 80) {
            makeRun(at);
        } else {
            ask(at);
        }
    }

    private void makeSmall(String at) {
        int name = next(30) == 0 ? 18 + next(4) : next(8) - (next(20) == 0 ? 8 : 0);
        if (next(2) == 0) {
            both(at + "leaf(" + name + ")", () -> x.leaf(name), () -> m.leaf(name));
        } else {
            int hole = next(2) == 0 ? name : next(2);
            both(at + "hole(" + hole + ")", () -> x.hole(hole), () -> m.hole(hole));
        }
    }

    private void makeRule(String at) {
        int left = tree();
        int right = tree();
        int condition = next(2) == 0 ? -1 : next(kinds) - (next(20) == 0 ? 3 : 0);
        both(at + "rule(" + left + "," + right + "," + condition + ")",
                () -> x.rule(left, right, condition), () -> m.rule(left, right, condition));
    }

    private void setRule(String at) {
        int rule = next(18) - 1;
        int condition = next(12) - 1;
        int answer = next(3) == 0 ? next(5) - 1 : 1;
        boolean on = next(4) != 0;
        switch (next(4)) {
            case 0 -> both(at + "holds(" + condition + "," + answer + ")",
                    () -> x.holds(condition, answer), () -> m.holds(condition, answer));
            case 1 -> both(at + "choose(" + rule + "," + on + ")",
                    () -> x.choose(rule, on), () -> m.choose(rule, on));
            case 2 -> both(at + "usable(" + rule + ")",
                    () -> x.usable(rule), () -> m.usable(rule));
            default -> both(at + "lessens(" + rule + ")",
                    () -> x.lessens(rule), () -> m.lessens(rule));
        }
    }

    private void makeRun(String at) {
        int a = tree();
        int b = tree();
        int steps = STEPS[next(STEPS.length)];
        switch (next(3)) {
            case 0 -> both(at + "rewrite(" + a + "," + steps + ")", () -> x.rewrite(a, steps), () -> rewritten(a, steps));
            case 1 -> both(at + "normal(" + a + ")", () -> x.normal(a), () -> m.normal(a));
            default -> both(at + "joins(" + a + "," + b + ")",
                    () -> x.joins(a, b), () -> joined(a, b));
        }
        if (next(2) == 0) {
            look(at);
        }
    }

    private int rewritten(int a, int steps) {
        try {
            int answer = m.rewrite(a, steps);
            outcomes[0] += m.steps() >= 5 ? 1 : 0;
            outcomes[1] += m.spent() ? 1 : 0;
            outcomes[4] += m.count(2) == 200 ? 1 : 0;
            outcomes[5] += m.domain() != 0 ? 1 : 0;
            return answer;
        } catch (IllegalStateException e) {
            outcomes[2]++;
            throw e;
        }
    }

    private boolean joined(int a, int b) {
        boolean answer = m.joins(a, b);
        outcomes[3] += answer && a != b ? 1 : 0;
        return answer;
    }

    /** What a run may change; of its rows only one, and of its trees the last, as calls are few. */
    private void look(String at) {
        int row = next(m.count(2) + 1);
        int tree = m.count(0) - 1;
        both(at + "then count(0)", () -> x.count(0), () -> m.count(0));
        both(at + "then count(2)", () -> x.count(2), () -> m.count(2));
        both(at + "then steps()", () -> x.steps(), () -> m.steps());
        both(at + "then spent()", () -> x.spent(), () -> m.spent());
        both(at + "then domain()", () -> x.domain(), () -> m.domain());
        both(at + "then head(" + tree + ")", () -> x.head(tree), () -> m.head(tree));
        for (int what = 0; what < 4; what++) {
            int w = what;
            both(at + "then row(" + row + "," + w + ")", () -> x.row(row, w), () -> m.row(row, w));
        }
    }

    private void ask(String at) {
        int a = tree();
        int b = tree();
        int what = next(7) - 1;
        int place = next(3) == 0 ? next(60) - 2 : next(8);
        int k = next(6) - 1;
        switch (next(5)) {
            case 0 -> both(at + "above(" + a + "," + b + ")",
                    () -> x.above(a, b), () -> m.above(a, b));
            case 1 -> both(at + "measure(" + a + "," + what + ")", () -> x.measure(a, what), () -> m.measure(a, what));
            case 2 -> both(at + "at(" + a + "," + place + ")", () -> x.at(a, place), () -> m.at(a, place));
            case 3 -> both(at + "head(" + a + ")", () -> x.head(a), () -> m.head(a));
            default -> both(at + "row(" + k + "," + what + ")", () -> x.row(k, what), () -> m.row(k, what));
        }
    }
}
