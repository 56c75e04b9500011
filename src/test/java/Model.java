import java.util.ArrayList;
import java.util.HashMap;
import java.util.List;
import java.util.Map;

/**
 * The document once more, told as literally as can be and without a thought of speed: what RuleSteps
 * is held against in random runs of calls.
 */
final class Model {
    /** A tree by its structure; numbers are only places in the list of trees. */
    record Tree(char kind, int name, List<Tree> parts) {
        int weight() {
            int sum = 1;
            if (kind == 'n' && List.of(2, 5, 8, 11).contains(name)) {
                sum++;
            }
            for (Tree part : parts) {
                sum += part.weight();
            }
            return sum;
        }

        int deep() {
            int most = -1;
            for (Tree part : parts) {
                most = Math.max(most, part.deep());
            }
            return most + 1;
        }

        List<Tree> places() {
            List<Tree> all = new ArrayList<>();
            all.add(this);
            for (Tree part : parts) {
                all.addAll(part.places());
            }
            return all;
        }

        int times(int hole) {
            int sum = 0;
            for (Tree place : places()) {
                if (place.kind == 'h' && place.name == hole) {
                    sum++;
                }
            }
            return sum;
        }

        int holes() {
            int sum = 0;
            for (int hole = 0; hole < 6; hole++) {
                sum += times(hole) > 0 ? 1 << hole : 0;
            }
            return sum;
        }

        boolean isAbove(Tree t) {
            for (int hole = 0; hole < 6; hole++) {
                if (times(hole) < t.times(hole)) {
                    return false;
                }
            }
            if (weight() != t.weight()) {
                return weight() > t.weight();
            }
            if (kind == 'n' && t.kind == 'l') {
                return true;
            }
            if (kind == 'l' && t.kind == 'l') {
                return name > t.name;
            }
            if (kind != 'n' || t.kind != 'n') {
                return false;
            }
            if (name != t.name) {
                return name > t.name;
            }
            for (int k = 0; k < parts.size(); k++) {
                if (!parts.get(k).equals(t.parts.get(k))) {
                    return parts.get(k).isAbove(t.parts.get(k));
                }
            }
            return false;
        }

        boolean matches(Tree plain, Map<Integer, Tree> holes) {
            if (kind == 'h') {
                Tree there = holes.putIfAbsent(name, plain);
                return there == null || there.equals(plain);
            }
            if (kind != plain.kind || name != plain.name) {
                return false;
            }
            for (int k = 0; k < parts.size(); k++) {
                if (!parts.get(k).matches(plain.parts.get(k), holes)) {
                    return false;
                }
            }
            return true;
        }
    }

    record Rule(Tree left, Tree right, int condition) {
    }

    record Row(int rule, int place, int ahead, int behind) {
    }

    private List<Tree> trees = new ArrayList<>();
    private final List<Rule> rules = new ArrayList<>();
    private final List<Boolean> chosen = new ArrayList<>();
    private final int[] answers = {2, 2, 2, 2, 2, 2, 2, 2, 2, 2};
    private List<Row> kept = new ArrayList<>();
    private int latestSteps = 0;
    private boolean spent = false;

    private Tree tree(int number) {
        if (number < 0 || number >= trees.size()) {
            throw new IndexOutOfBoundsException();
        }
        return trees.get(number);
    }

    private Rule ruleOf(int number) {
        if (number < 0 || number >= rules.size()) {
            throw new IndexOutOfBoundsException();
        }
        return rules.get(number);
    }

    private static void argument(boolean right) {
        if (!right) {
            throw new IllegalArgumentException();
        }
    }

    private int make(Tree tree) {
        int number = trees.indexOf(tree);
        if (number >= 0) {
            return number;
        }
        if (trees.size() == 300 || tree.deep() > 30 || tree.weight() > 1000) {
            throw new IllegalStateException();
        }
        trees.add(tree);
        return trees.size() - 1;
    }

    int leaf(int name) {
        argument(name >= 0 && name <= 19);
        return make(new Tree('l', name, List.of()));
    }

    int hole(int name) {
        argument(name >= 0 && name <= 5);
        return make(new Tree('h', name, List.of()));
    }

    int node(int head, int a, int b) {
        Tree first = tree(a);
        if (b == -1 && head < 6) {
            argument(head >= 0);
            return make(new Tree('n', head, List.of(first)));
        }
        Tree second = tree(b);
        argument(head >= 6 && head <= 11);
        return make(new Tree('n', head, List.of(first, second)));
    }

    int rule(int left, int right, int condition) {
        Tree from = tree(left);
        Tree to = tree(right);
        argument(from.kind() == 'n' && condition >= -1 && condition <= 9);
        for (int hole = 0; hole < 6; hole++) {
            argument(to.times(hole) == 0 || from.times(hole) > 0);
        }
        if (rules.size() == 16) {
            return -1;
        }
        rules.add(new Rule(from, to, condition));
        chosen.add(true);
        return rules.size() - 1;
    }

    boolean holds(int condition, int answer) {
        argument(condition >= 0 && condition <= 9 && answer >= 0 && answer <= 2);
        boolean another = answers[condition] != answer;
        answers[condition] = answer;
        return another;
    }

    boolean choose(int rule, boolean on) {
        ruleOf(rule);
        return chosen.set(rule, on) != on;
    }

    boolean usable(int rule) {
        int condition = ruleOf(rule).condition();
        return chosen.get(rule) && (condition == -1 || answers[condition] == 1);
    }

    boolean lessens(int rule) {
        return ruleOf(rule).left().isAbove(ruleOf(rule).right());
    }

    /** The lowest rule that matches at each place, -1 where there is none. */
    private List<Integer> ruleAtPlaces(Tree whole, boolean onlyLessening) {
        List<Integer> found = new ArrayList<>();
        for (Tree place : whole.places()) {
            int rule = -1;
            for (int r = rules.size() - 1; r >= 0; r--) {
                boolean of = usable(r) && (!onlyLessening || lessens(r));
                if (of && rules.get(r).left().matches(place, new HashMap<>())) {
                    rule = r;
                }
            }
            found.add(rule);
        }
        return found;
    }

    private static int placeOfStep(Tree whole, List<Integer> ruleAt) {
        List<Tree> places = whole.places();
        for (int p = 0; p < places.size(); p++) {
            boolean within = false;
            for (int q = p + 1; q < p + places.get(p).places().size(); q++) {
                within |= ruleAt.get(q) >= 0;
            }
            if (ruleAt.get(p) >= 0 && !within) {
                return p;
            }
        }
        return -1;
    }

    private Tree fill(Tree part, Map<Integer, Tree> holes) {
        if (part.kind() == 'h') {
            return holes.get(part.name());
        }
        List<Tree> parts = new ArrayList<>();
        for (Tree inner : part.parts()) {
            parts.add(fill(inner, holes));
        }
        Tree made = new Tree(part.kind(), part.name(), parts);
        make(made);
        return made;
    }

    private Tree putIn(Tree whole, int place, Rule rule) {
        if (place == 0) {
            Map<Integer, Tree> holes = new HashMap<>();
            rule.left().matches(whole, holes);
            Tree put = fill(rule.right(), holes);
            make(put);
            return put;
        }
        List<Tree> parts = new ArrayList<>();
        int from = 1;
        for (Tree part : whole.parts()) {
            int many = part.places().size();
            boolean here = place >= from && place < from + many;
            parts.add(here ? putIn(part, place - from, rule) : part);
            from += many;
        }
        Tree made = new Tree('n', whole.name(), parts);
        make(made);
        return made;
    }

    /** A run; its rows go into the list. If it throws, its trees are taken back. */
    private int run(int number, int most, boolean onlyLessening, List<Row> rows) {
        List<Tree> before = new ArrayList<>(trees);
        try {
            Tree now = trees.get(number);
            while (rows.size() < most) {
                List<Integer> ruleAt = ruleAtPlaces(now, onlyLessening);
                int place = placeOfStep(now, ruleAt);
                if (place < 0) {
                    break;
                }
                Tree next = putIn(now, place, rules.get(ruleAt.get(place)));
                rows.add(new Row(ruleAt.get(place), place, make(now), make(next)));
                now = next;
            }
            return make(now);
        } catch (IllegalStateException e) {
            trees = before;
            throw new IllegalStateException();
        }
    }

    private void keep(List<Row> rows) {
        latestSteps = rows.size();
        kept = new ArrayList<>(rows.subList(0, Math.min(200, rows.size())));
    }

    int rewrite(int tree, int steps) {
        argument(tree(tree).holes() == 0 && steps >= 0 && steps <= 200);
        List<Row> rows = new ArrayList<>();
        int last = run(tree, steps, false, rows);
        keep(rows);
        spent = placeOfStep(trees.get(last), ruleAtPlaces(trees.get(last), false)) >= 0;
        return last;
    }

    int normal(int tree) {
        argument(tree(tree).holes() == 0);
        List<Row> rows = new ArrayList<>();
        int last = run(tree, Integer.MAX_VALUE, true, rows);
        keep(rows);
        return last;
    }

    boolean joins(int a, int b) {
        Tree one = tree(a);
        Tree other = tree(b);
        argument(one.holes() == 0 && other.holes() == 0);
        List<Tree> before = new ArrayList<>(trees);
        int lastOfA = run(a, Integer.MAX_VALUE, true, new ArrayList<>());
        try {
            return lastOfA == run(b, Integer.MAX_VALUE, true, new ArrayList<>());
        } catch (IllegalStateException e) {
            trees = before;
            throw new IllegalStateException();
        }
    }

    boolean spent() {
        return spent;
    }

    int row(int k, int what) {
        if (k < 0 || k >= kept.size()) {
            throw new IndexOutOfBoundsException();
        }
        argument(what >= 0 && what <= 3);
        Row row = kept.get(k);
        return List.of(row.rule(), row.place(), row.ahead(), row.behind()).get(what);
    }

    int steps() {
        return latestSteps;
    }

    int domain() {
        int sum = 0;
        for (int condition = 0; condition < 10; condition++) {
            boolean there = false;
            for (Row row : kept) {
                there |= rules.get(row.rule()).condition() == condition;
            }
            sum += there ? 1 << condition : 0;
        }
        return sum;
    }

    boolean above(int a, int b) {
        Tree s = tree(a);
        Tree t = tree(b);
        return s.isAbove(t);
    }

    int measure(int tree, int what) {
        Tree of = tree(tree);
        argument(what >= 0 && what <= 3);
        return List.of(of.weight(), of.places().size(), of.deep(), of.holes()).get(what);
    }

    int at(int tree, int place) {
        List<Tree> places = tree(tree).places();
        return place < 0 || place >= places.size() ? -1 : trees.indexOf(places.get(place));
    }

    int head(int tree) {
        Tree of = tree(tree);
        return of.kind() == 'l' ? -1 - of.name() : of.kind() == 'h' ? 100 + of.name() : of.name();
    }

    int count(int what) {
        return what == 0 ? trees.size() : what == 1 ? rules.size() : what == 2 ? kept.size() : -1;
    }
}
