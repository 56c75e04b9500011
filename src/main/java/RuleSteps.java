import java.util.Arrays;

/**
 * Rewriting of trees by chosen rules. All rows are made once, in the constructors, and used again
 * by every call, so that a long run of calls makes nothing but the exceptions that it throws.
 */
public final class RuleSteps {
    private static final int NONE = -1;

    private static final int MOST_TREES = 300;
    private static final int MOST_DEPTH = 30;
    private static final int MOST_WEIGHT = 1000;
    private static final int LEAF_NAMES = 20;
    private static final int HOLE_NAMES = 6;
    private static final int HEADS = 12;
    private static final int FIRST_HEAD_OF_TWO = 6;
    private static final int HOLE_MARK = 100;

    private static final int MOST_RULES = 16;
    private static final int CONDITIONS = 10;
    private static final int ANSWERS = 3;
    private static final int YES = 1;
    private static final int OPEN = 2;

    private static final int MOST_ROWS = 200;
    private static final int ROW_WIDTH = 4;
    private static final int MEASURES = 4;

    // Each step by rules that lessen comes to a tree that the run has not seen, and there are 300
    // trees at most: no such run can ever make so many steps.
    private static final int STEPS_TO_ANY_END = 1000;

    private final Trees trees;
    private final Rules rules;
    private final Runner runner;
    private Rows kept;
    private Rows spare;
    private int latestSteps;
    private boolean latestSpent;

    public RuleSteps() {
        trees = new Trees();
        rules = new Rules();
        runner = new Runner(trees, rules);
        kept = new Rows();
        spare = new Rows();
        latestSteps = 0;
        latestSpent = false;
    }

    public int leaf(int name) throws IllegalArgumentException, IllegalStateException {
        if (name < 0 || name >= LEAF_NAMES) {
            throw new IllegalArgumentException("no such name of a leaf");
        }
        return needMade(trees.numberOf(-1 - name, NONE, NONE));
    }

    public int hole(int name) throws IllegalArgumentException, IllegalStateException {
        if (name < 0 || name >= HOLE_NAMES) {
            throw new IllegalArgumentException("no such name of a hole");
        }
        return needMade(trees.numberOf(HOLE_MARK + name, NONE, NONE));
    }

    public int node(int head, int a, int b)
            throws IndexOutOfBoundsException, IllegalArgumentException, IllegalStateException {
        boolean mayLackSecond = head < FIRST_HEAD_OF_TWO;
        needTree(a);
        if (!(mayLackSecond && b == NONE)) {
            needTree(b);
        }
        if (head < 0 || head >= HEADS || (mayLackSecond && b != NONE)) {
            throw new IllegalArgumentException("no such head, or a part too many");
        }
        return needMade(trees.numberOf(head, a, b));
    }

    public int rule(int left, int right, int condition)
            throws IndexOutOfBoundsException, IllegalArgumentException {
        needTree(left);
        needTree(right);
        if (!trees.isNode(left) || (trees.holes[right] & ~trees.holes[left]) != 0) {
            throw new IllegalArgumentException("the trees make no rule");
        }
        if (condition < NONE || condition >= CONDITIONS) {
            throw new IllegalArgumentException("no such condition");
        }
        return rules.add(left, right, condition, trees.isAbove(left, right));
    }

    public boolean holds(int condition, int answer) throws IllegalArgumentException {
        if (condition < 0 || condition >= CONDITIONS || answer < 0 || answer >= ANSWERS) {
            throw new IllegalArgumentException("no such condition or answer");
        }
        boolean another = rules.answers[condition] != answer;
        rules.answers[condition] = answer;
        return another;
    }

    public boolean choose(int rule, boolean on) throws IndexOutOfBoundsException {
        needRule(rule);
        boolean another = rules.chosen[rule] != on;
        rules.chosen[rule] = on;
        return another;
    }

    public int rewrite(int tree, int steps)
            throws IndexOutOfBoundsException, IllegalArgumentException, IllegalStateException {
        needTree(tree);
        needPlain(tree);
        if (steps < 0 || steps > MOST_ROWS) {
            throw new IllegalArgumentException("no such number of steps");
        }
        int before = trees.size;
        int last = needRun(runner.run(tree, steps, false, spare), before);
        keepRun();
        latestSpent = runner.moreToDo;
        return last;
    }

    public int normal(int tree)
            throws IndexOutOfBoundsException, IllegalArgumentException, IllegalStateException {
        needTree(tree);
        needPlain(tree);
        int before = trees.size;
        int last = needRun(runner.run(tree, STEPS_TO_ANY_END, true, spare), before);
        keepRun();
        return last;
    }

    public boolean joins(int a, int b)
            throws IndexOutOfBoundsException, IllegalArgumentException, IllegalStateException {
        needTree(a);
        needTree(b);
        needPlain(a);
        needPlain(b);
        int before = trees.size;
        int lastOfA = needRun(runner.run(a, STEPS_TO_ANY_END, true, spare), before);
        int lastOfB = needRun(runner.run(b, STEPS_TO_ANY_END, true, spare), before);
        return lastOfA == lastOfB;
    }

    public boolean spent() {
        return latestSpent;
    }

    public int row(int k, int what) throws IndexOutOfBoundsException, IllegalArgumentException {
        if (k < 0 || k >= kept.size) {
            throw new IndexOutOfBoundsException("no such row");
        }
        if (what < 0 || what >= ROW_WIDTH) {
            throw new IllegalArgumentException("a row has no such cell");
        }
        return kept.cell(k, what);
    }

    public int steps() {
        return latestSteps;
    }

    public int domain() {
        int sum = 0;
        for (int k = 0; k < kept.size; k++) {
            int condition = rules.condition[kept.cell(k, 0)];
            if (condition != NONE) {
                sum |= 1 << condition;
            }
        }
        return sum;
    }

    public boolean lessens(int rule) throws IndexOutOfBoundsException {
        needRule(rule);
        return rules.lessening[rule];
    }

    public boolean usable(int rule) throws IndexOutOfBoundsException {
        needRule(rule);
        return rules.mayBeUsed(rule);
    }

    public boolean above(int a, int b) throws IndexOutOfBoundsException {
        needTree(a);
        needTree(b);
        return trees.isAbove(a, b);
    }

    public int measure(int tree, int what) throws IndexOutOfBoundsException, IllegalArgumentException {
        needTree(tree);
        if (what < 0 || what >= MEASURES) {
            throw new IllegalArgumentException("no such measure");
        }
        switch (what) {
            case 0:
                return trees.weight[tree];
            case 1:
                return trees.places[tree];
            case 2:
                return trees.depth[tree];
            default:
                return trees.holes[tree];
        }
    }

    public int at(int tree, int place) throws IndexOutOfBoundsException {
        needTree(tree);
        return trees.treeAt(tree, place);
    }

    public int head(int tree) throws IndexOutOfBoundsException {
        needTree(tree);
        return trees.mark[tree];
    }

    public int count(int what) {
        switch (what) {
            case 0:
                return trees.size;
            case 1:
                return rules.size;
            case 2:
                return kept.size;
            default:
                return -1;
        }
    }

    private void needTree(int tree) {
        if (tree < 0 || tree >= trees.size) {
            throw new IndexOutOfBoundsException("no such tree");
        }
    }

    private void needRule(int rule) {
        if (rule < 0 || rule >= rules.size) {
            throw new IndexOutOfBoundsException("no such rule");
        }
    }

    private void needPlain(int tree) {
        if (trees.holes[tree] != 0) {
            throw new IllegalArgumentException("the tree isn't plain");
        }
    }

    private static int needMade(int tree) {
        if (tree < 0) {
            throw new IllegalStateException("too many trees, or too deep or heavy a one");
        }
        return tree;
    }

    /** The last tree of a run; one that could not be made takes back all trees since the call began. */
    private int needRun(int last, int treesBefore) {
        if (last < 0) {
            trees.shrinkTo(treesBefore);
        }
        return needMade(last);
    }

    /** The rows of a run are written into the spare object, so that a run that fails spoils none. */
    private void keepRun() {
        Rows old = kept;
        kept = spare;
        spare = old;
        latestSteps = runner.made;
    }

    /**
     * The trees. A mark is what head() answers of a tree: it tells leaf, hole and node apart. Equal
     * trees are one, so two trees are equal if their numbers are; parts have lower numbers than
     * what they are parts of.
     */
    private static final class Trees {
        private static final int SLOTS = 512;

        final int[] mark = new int[MOST_TREES];
        final int[] first = new int[MOST_TREES];
        final int[] second = new int[MOST_TREES];
        final int[] weight = new int[MOST_TREES];
        final int[] places = new int[MOST_TREES];
        final int[] depth = new int[MOST_TREES];
        final int[] holes = new int[MOST_TREES];
        final int[] holeCounts = new int[MOST_TREES * HOLE_NAMES];
        // Trees of one slot are a chain from the newest to the oldest.
        final int[] newest = new int[SLOTS];
        final int[] older = new int[MOST_TREES];
        int size = 0;

        Trees() {
            Arrays.fill(newest, NONE);
        }

        boolean isNode(int tree) {
            return tree >= 0 && mark[tree] >= 0 && mark[tree] < HEADS;
        }

        boolean isLeaf(int tree) {
            return tree >= 0 && mark[tree] < 0;
        }

        /** The number of the tree with these parts, made if it isn't there; NONE if it may not be. */
        int numberOf(int itsMark, int a, int b) {
            int slot = slotOf(itsMark, a, b);
            int tree = newest[slot];
            for (int n = 0; n < MOST_TREES && tree >= 0; n++) {
                if (mark[tree] == itsMark && first[tree] == a && second[tree] == b) {
                    return tree;
                }
                tree = older[tree];
            }
            return enter(itsMark, a, b);
        }

        private int slotOf(int itsMark, int a, int b) {
            return ((itsMark * 31 + a) * 31 + b) & (SLOTS - 1);
        }

        private int enter(int itsMark, int a, int b) {
            int itsWeight = ownWeight(itsMark) + valueOf(weight, a, 0) + valueOf(weight, b, 0);
            int itsDepth = 1 + Math.max(valueOf(depth, a, -1), valueOf(depth, b, -1));
            if (size >= MOST_TREES || itsWeight > MOST_WEIGHT || itsDepth > MOST_DEPTH) {
                return NONE;
            }
            int tree = size;
            size++;
            mark[tree] = itsMark;
            first[tree] = a;
            second[tree] = b;
            weight[tree] = itsWeight;
            depth[tree] = itsDepth;
            places[tree] = 1 + valueOf(places, a, 0) + valueOf(places, b, 0);
            noteHoles(tree);
            int slot = slotOf(itsMark, a, b);
            older[tree] = newest[slot];
            newest[slot] = tree;
            return tree;
        }

        private int valueOf(int[] values, int tree, int ifNone) {
            return tree < 0 ? ifNone : values[tree];
        }

        private int ownWeight(int itsMark) {
            return itsMark >= 0 && itsMark < HEADS && itsMark % 3 == 2 ? 2 : 1;
        }

        private void noteHoles(int tree) {
            int sum = 0;
            for (int name = 0; name < HOLE_NAMES; name++) {
                int times = mark[tree] == HOLE_MARK + name ? 1 : 0;
                times += holeCount(first[tree], name) + holeCount(second[tree], name);
                holeCounts[tree * HOLE_NAMES + name] = times;
                sum |= times > 0 ? 1 << name : 0;
            }
            holes[tree] = sum;
        }

        private int holeCount(int tree, int name) {
            return tree < 0 ? 0 : holeCounts[tree * HOLE_NAMES + name];
        }

        /** Takes back the newest trees; each is the newest of its slot when its turn comes. */
        void shrinkTo(int rest) {
            while (size > rest && size > 0) {
                size--;
                newest[slotOf(mark[size], first[size], second[size])] = older[size];
            }
        }

        int treeAt(int tree, int place) {
            if (place < 0 || place >= places[tree]) {
                return NONE;
            }
            int here = tree;
            int ahead = place;
            while (ahead > 0 && isNode(here)) {
                ahead--;
                int inFirst = places[first[here]];
                if (ahead < inFirst) {
                    here = first[here];
                } else {
                    ahead -= inFirst;
                    here = second[here];
                }
            }
            return here;
        }

        /** Only one part of each decides when the heads are the same: so a loop goes down to it. */
        boolean isAbove(int s, int t) {
            int high = s;
            int low = t;
            for (int level = 0; level <= MOST_DEPTH && high != low; level++) {
                if (!hasHolesOf(high, low)) {
                    return false;
                }
                if (weight[high] != weight[low]) {
                    return weight[high] > weight[low];
                }
                if (!isNode(high) || !isNode(low)) {
                    return isLeaf(low) && (isNode(high) || (isLeaf(high) && mark[high] < mark[low]));
                }
                if (mark[high] != mark[low]) {
                    return mark[high] > mark[low];
                }
                boolean firstDiffers = first[high] != first[low];
                high = firstDiffers ? first[high] : second[high];
                low = firstDiffers ? first[low] : second[low];
            }
            return false;
        }

        private boolean hasHolesOf(int high, int low) {
            for (int name = 0; name < HOLE_NAMES; name++) {
                if (holeCount(high, name) < holeCount(low, name)) {
                    return false;
                }
            }
            return true;
        }
    }

    /** The rules, and the answers that their conditions were fed. */
    private static final class Rules {
        final int[] left = new int[MOST_RULES];
        final int[] right = new int[MOST_RULES];
        final int[] condition = new int[MOST_RULES];
        final boolean[] lessening = new boolean[MOST_RULES];
        final boolean[] chosen = new boolean[MOST_RULES];
        final int[] answers = new int[CONDITIONS];
        int size = 0;

        Rules() {
            Arrays.fill(answers, OPEN);
        }

        int add(int itsLeft, int itsRight, int itsCondition, boolean itLessens) {
            if (size >= MOST_RULES) {
                return NONE;
            }
            int rule = size;
            size++;
            left[rule] = itsLeft;
            right[rule] = itsRight;
            condition[rule] = itsCondition;
            lessening[rule] = itLessens;
            chosen[rule] = true;
            return rule;
        }

        boolean mayBeUsed(int rule) {
            return chosen[rule] && (condition[rule] == NONE || answers[condition[rule]] == YES);
        }
    }

    /** The first rows of a run. */
    private static final class Rows {
        private final int[] cells = new int[MOST_ROWS * ROW_WIDTH];
        int size = 0;

        int cell(int k, int what) {
            return cells[k * ROW_WIDTH + what];
        }

        void add(int rule, int place, int ahead, int behind) {
            if (size >= MOST_ROWS) {
                return;
            }
            int from = size * ROW_WIDTH;
            cells[from] = rule;
            cells[from + 1] = place;
            cells[from + 2] = ahead;
            cells[from + 3] = behind;
            size++;
        }
    }

    /** Makes runs. What it finds of a tree stays true for the rest of a run, and is noted. */
    private static final class Runner {
        // What is noted of a tree: one of these, or the rule that rewrites the tree itself first.
        private static final int NOWHERE = -1;
        private static final int IN_PARTS = -2;
        private static final int UNKNOWN = -3;

        private final Trees trees;
        private final Rules rules;
        private final boolean[] allowed = new boolean[MOST_RULES];
        private final int[] found = new int[MOST_TREES];
        private final int[] bound = new int[HOLE_NAMES];
        // The place of a step: the tree there, its number, and what is around it, from without.
        private int spot = 0;
        private int place = 0;
        private int levels = 0;
        private final int[] around = new int[MOST_DEPTH];
        private final boolean[] inSecond = new boolean[MOST_DEPTH];
        // What is told of the latest run: how many steps it made, and whether a rule matches yet.
        int made = 0;
        boolean moreToDo = false;

        Runner(Trees itsTrees, Rules itsRules) {
            trees = itsTrees;
            rules = itsRules;
        }

        /** The last tree of a run of so many steps at most; NONE if a tree of it may not be made. */
        int run(int tree, int most, boolean onlyLessening, Rows rows) {
            begin(onlyLessening);
            rows.size = 0;
            made = 0;
            int now = tree;
            while (made < most && canStep(now)) {
                int next = step(now);
                if (next < 0) {
                    return NONE;
                }
                rows.add(found[spot], place, now, next);
                now = next;
                made++;
            }
            moreToDo = canStep(now);
            return now;
        }

        private void begin(boolean onlyLessening) {
            Arrays.fill(found, UNKNOWN);
            for (int rule = 0; rule < rules.size; rule++) {
                allowed[rule] = rules.mayBeUsed(rule) && (rules.lessening[rule] || !onlyLessening);
            }
        }

        /** Whether a rule of the run matches somewhere; trees are 30 deep at most, so this is too. */
        private boolean canStep(int tree) {
            if (tree < 0) {
                return false;
            }
            if (found[tree] == UNKNOWN) {
                boolean inParts = canStep(trees.first[tree]) || canStep(trees.second[tree]);
                found[tree] = inParts ? IN_PARTS : lowestRule(tree);
            }
            return found[tree] != NOWHERE;
        }

        private int lowestRule(int tree) {
            for (int rule = 0; rule < rules.size; rule++) {
                if (allowed[rule] && matches(rules.left[rule], tree)) {
                    return rule;
                }
            }
            return NOWHERE;
        }

        private boolean matches(int left, int tree) {
            if (trees.mark[left] != trees.mark[tree] || trees.weight[left] > trees.weight[tree]) {
                return false;
            }
            Arrays.fill(bound, NONE);
            return fits(left, tree);
        }

        /** Whether a part of a left tree becomes this tree by the trees that its holes stand for. */
        private boolean fits(int part, int tree) {
            if (part < 0 || tree < 0 || trees.holes[part] == 0) {
                return part == tree;
            }
            int mark = trees.mark[part];
            if (mark >= HOLE_MARK) {
                return bind(mark - HOLE_MARK, tree);
            }
            return mark == trees.mark[tree]
                    && fits(trees.first[part], trees.first[tree])
                    && fits(trees.second[part], trees.second[tree]);
        }

        private boolean bind(int name, int tree) {
            if (bound[name] == NONE) {
                bound[name] = tree;
            }
            return bound[name] == tree;
        }

        /** The whole tree behind a step of a tree that has one; NONE if a tree may not be made. */
        private int step(int tree) {
            seek(tree);
            int rule = found[spot];
            if (rule < 0 || !matches(rules.left[rule], spot)) {
                return NONE;
            }
            int now = filled(rules.right[rule]);
            for (int level = levels - 1; level >= 0 && now >= 0; level--) {
                int outer = around[level];
                int a = inSecond[level] ? trees.first[outer] : now;
                int b = inSecond[level] ? now : trees.second[outer];
                now = trees.numberOf(trees.mark[outer], a, b);
            }
            return now;
        }

        /** Places that match with none within them lie apart: the lowest is first from the left. */
        private void seek(int tree) {
            spot = tree;
            place = 0;
            levels = 0;
            while (levels < MOST_DEPTH && found[spot] == IN_PARTS) {
                int a = trees.first[spot];
                boolean second = !canStep(a);
                around[levels] = spot;
                inSecond[levels] = second;
                levels++;
                place += second ? 1 + trees.places[a] : 1;
                spot = second ? trees.second[spot] : a;
            }
        }

        /** A part of a right tree with the trees of its holes; new trees come parts first. */
        private int filled(int part) {
            if (part < 0 || trees.holes[part] == 0) {
                return part;
            }
            int mark = trees.mark[part];
            if (mark >= HOLE_MARK) {
                return bound[mark - HOLE_MARK];
            }
            int a = filled(trees.first[part]);
            int b = a < 0 ? NONE : filled(trees.second[part]);
            if (a < 0 || (b < 0 && trees.second[part] >= 0)) {
                return NONE;
            }
            return trees.numberOf(mark, a, b);
        }
    }
}
