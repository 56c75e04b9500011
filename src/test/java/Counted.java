/**
 * RuleSteps with its calls counted. What an object answers after its 512th call is free: a test that
 * would ask more is wrong itself, and is ended.
 */
final class Counted {
    static final int MOST_CALLS = 512;

    private final RuleSteps steps = new RuleSteps();
    private int calls = 0;

    private RuleSteps next() {
        calls++;
        if (calls > MOST_CALLS) {
            throw new UnsupportedOperationException("the test makes more than 512 calls");
        }
        return steps;
    }

    int calls() {
        return calls;
    }

    int leaf(int name) {
        return next().leaf(name);
    }

    int hole(int name) {
        return next().hole(name);
    }

    int node(int head, int a, int b) {
        return next().node(head, a, b);
    }

    int rule(int left, int right, int condition) {
        return next().rule(left, right, condition);
    }

    boolean holds(int condition, int answer) {
        return next().holds(condition, answer);
    }

    boolean choose(int rule, boolean on) {
        return next().choose(rule, on);
    }

    int rewrite(int tree, int most) {
        return next().rewrite(tree, most);
    }

    int normal(int tree) {
        return next().normal(tree);
    }

    boolean joins(int a, int b) {
        return next().joins(a, b);
    }

    boolean spent() {
        return next().spent();
    }

    int row(int k, int what) {
        return next().row(k, what);
    }

    int steps() {
        return next().steps();
    }

    int domain() {
        return next().domain();
    }

    boolean lessens(int rule) {
        return next().lessens(rule);
    }

    boolean usable(int rule) {
        return next().usable(rule);
    }

    boolean above(int a, int b) {
        return next().above(a, b);
    }

    int measure(int tree, int what) {
        return next().measure(tree, what);
    }

    int at(int tree, int place) {
        return next().at(tree, place);
    }

    int head(int tree) {
        return next().head(tree);
    }

    int count(int what) {
        return next().count(what);
    }
}
