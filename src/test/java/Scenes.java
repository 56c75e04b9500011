import java.util.ArrayList;
import java.util.List;

/** What several tests begin with, and what they look at behind refused calls. */
final class Scenes {
    private Scenes() {
    }

    /**
     * Makes trees with the head 10, one by each call, until there are so many. No other tree of the
     * object may have that head; the base is a light plain tree.
     */
    static void fill(Counted x, int base, int many) {
        List<Integer> parts = new ArrayList<>();
        parts.add(base);
        int size = x.count(0);
        for (int i = 0; size < many; i++) {
            for (int j = 0; j <= i && size < many; j++) {
                int made = x.node(10, parts.get(i), parts.get(j));
                parts.add(made);
                size = made + 1;
            }
        }
    }

    /** The tree with so many nodes of one part around it. */
    static int around(Counted x, int head, int tree, int times) {
        int now = tree;
        for (int n = 0; n < times; n++) {
            now = x.node(head, now, -1);
        }
        return now;
    }

    /** A tree of just this weight, by the heads 0 and 6 and the leaf 0: it has as many places. */
    static int heavy(Counted x, int weight) {
        if (weight == 1) {
            return x.leaf(0);
        }
        if (weight % 2 == 0) {
            return x.node(0, heavy(x, weight - 1), -1);
        }
        int half = heavy(x, weight / 2);
        return x.node(6, half, half);
    }

    /**
     * Rules that count down three digits, 0 to 5, of 7(6(i, j), k); the last one ends it. All of them
     * lessen. Their conditions are 8 and 9 where a digit is borrowed from, 7 of the last rule, none
     * of the others; all are answered by yes. Leaf d is tree d.
     */
    static Counted counter() {
        Counted x = new Counted();
        for (int digit = 0; digit < 6; digit++) {
            x.leaf(digit);
        }
        int h = x.hole(0);
        for (int d = 1; d < 6; d++) {
            x.rule(x.node(7, h, d), x.node(7, h, d - 1), -1);
            x.rule(x.node(7, x.node(6, h, d), 0), x.node(7, x.node(6, h, d - 1), 5), 8);
            x.rule(x.node(7, x.node(6, d, 0), 0), x.node(7, x.node(6, d - 1, 5), 5), 9);
        }
        x.rule(x.node(7, x.node(6, 0, 0), 0), 0, 7);
        for (int condition = 7; condition < 10; condition++) {
            x.holds(condition, 1);
        }
        return x;
    }

    /** The tree from which the counter makes just so many steps, 1 to 216, to leaf 0. */
    static int countdown(Counted x, int steps) {
        int value = steps - 1;
        return x.node(7, x.node(6, value / 36, value / 6 % 6), value % 6);
    }

    /** All that a few calls can tell of an object: 6, 2 for each rule, 8 for rows and 15 for trees. */
    static String state(Counted x) {
        StringBuilder text = new StringBuilder();
        int trees = x.count(0);
        int rules = x.count(1);
        int rows = x.count(2);
        text.append("trees ").append(trees).append(", rules ").append(rules).append(", rows ").append(rows);
        text.append(", steps ").append(x.steps()).append(", spent ").append(x.spent());
        text.append(", domain ").append(x.domain());
        for (int rule = 0; rule < rules; rule++) {
            text.append("; rule ").append(x.lessens(rule)).append(' ').append(x.usable(rule));
        }
        for (int k = 0; k < rows; k += Math.max(1, rows - 1)) {
            text.append("; row");
            for (int what = 0; what < 4; what++) {
                text.append(' ').append(x.row(k, what));
            }
        }
        for (int tree = Math.max(0, trees - 3); tree < trees; tree++) {
            text.append("; tree ").append(x.head(tree));
            for (int what = 0; what < 4; what++) {
                text.append(' ').append(x.measure(tree, what));
            }
        }
        return text.toString();
    }
}
