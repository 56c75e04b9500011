/** Promise 3: hole. */
public final class Promise03HoleTest {
    private static final Check CHECK = new Check("Promise 3");

    public static void main(String[] args) {
        CHECK.test("a HOLE has a name, 0 .. 5", Promise03HoleTest::names);
        CHECK.test("IllegalArgumentException: there is no such name", Promise03HoleTest::noSuchName);
        CHECK.test("equal ones are one", Promise03HoleTest::equalOnes);
        CHECK.test("A new tree gets the next number", Promise03HoleTest::nextNumber);
        CHECK.test("TREES have numbers, 0 .. 299", Promise03HoleTest::lastNumber);
        CHECK.test("IllegalStateException: there would be more than 300 trees", Promise03HoleTest::oneTooMany);
        CHECK.test("Of several the one that stands first behind throws", Promise03HoleTest::argumentFirst);
        CHECK.test("nothing changes", Promise03HoleTest::refused);
        CHECK.end();
    }

    private static void names() {
        Counted x = new Counted();
        for (int name = 0; name < 6; name++) {
            int n = name;
            CHECK.due("hole(" + n + ")", () -> x.hole(n), n);
            CHECK.due("its head", () -> x.head(n), 100 + n);
            CHECK.due("its holes", () -> x.measure(n, 3), 1 << n);
        }
        CHECK.due("all of them", () -> x.count(0), 6);
    }

    private static void noSuchName() {
        Counted x = new Counted();
        CHECK.noArgument("hole(-1)", () -> x.hole(-1));
        CHECK.noArgument("hole(6)", () -> x.hole(6));
        CHECK.noArgument("hole(19), a name of leaves alone", () -> x.hole(19));
        CHECK.noArgument("hole of the lowest int", () -> x.hole(Integer.MIN_VALUE));
        CHECK.noArgument("hole of the highest int", () -> x.hole(Integer.MAX_VALUE));
    }

    private static void equalOnes() {
        Counted x = new Counted();
        CHECK.due("hole(0)", () -> x.hole(0), 0);
        CHECK.due("hole(5)", () -> x.hole(5), 1);
        CHECK.due("hole(0) again", () -> x.hole(0), 0);
        CHECK.due("hole(5) again", () -> x.hole(5), 1);
        CHECK.due("two trees", () -> x.count(0), 2);
        CHECK.due("a leaf of the same name is another tree", () -> x.leaf(0), 2);
        CHECK.due("hole(0) once more", () -> x.hole(0), 0);
    }

    private static void nextNumber() {
        Counted x = new Counted();
        CHECK.due("the first", () -> x.hole(5), 0);
        CHECK.noArgument("a refused one", () -> x.hole(6));
        CHECK.due("the next behind a refused one", () -> x.hole(3), 1);
        CHECK.due("one that is there", () -> x.hole(5), 0);
        CHECK.due("the next behind that", () -> x.hole(4), 2);
    }

    private static void lastNumber() {
        Counted x = new Counted();
        Scenes.fill(x, x.leaf(0), 299);
        CHECK.due("the 300th tree", () -> x.hole(5), 299);
        CHECK.due("its head", () -> x.head(299), 105);
        CHECK.due("trees", () -> x.count(0), 300);
    }

    private static void oneTooMany() {
        Counted x = new Counted();
        int leaf = x.leaf(0);
        x.hole(0);
        Scenes.fill(x, leaf, 300);
        CHECK.noState("a 301st tree", () -> x.hole(1));
        CHECK.noState("the same once more", () -> x.hole(1));
        CHECK.due("one that is there", () -> x.hole(0), 1);
    }

    private static void argumentFirst() {
        Counted x = new Counted();
        Scenes.fill(x, x.leaf(0), 300);
        CHECK.noArgument("hole(6), and no room", () -> x.hole(6));
        CHECK.noArgument("hole(-1), and no room", () -> x.hole(-1));
    }

    private static void refused() {
        Counted x = new Counted();
        Scenes.fill(x, x.leaf(0), 299);
        CHECK.nothingChanges(x, () -> {
            CHECK.noArgument("hole(-1)", () -> x.hole(-1));
            CHECK.noArgument("hole(6)", () -> x.hole(6));
        });
        x.hole(2);
        CHECK.nothingChanges(x, () -> CHECK.noState("hole(1) without room", () -> x.hole(1)));
        CHECK.noIndex("there is no tree 300", () -> x.head(300));
    }
}
