/** Promise 2: leaf. */
public final class Promise02LeafTest {
    private static final Check CHECK = new Check("Promise 2");

    public static void main(String[] args) {
        CHECK.test("A LEAF has a name, 0 .. 19", Promise02LeafTest::names);
        CHECK.test("IllegalArgumentException: there is no such name", Promise02LeafTest::noSuchName);
        CHECK.test("equal ones are one", Promise02LeafTest::equalOnes);
        CHECK.test("A new tree gets the next number", Promise02LeafTest::nextNumber);
        CHECK.test("TREES have numbers, 0 .. 299", Promise02LeafTest::lastNumber);
        CHECK.test("IllegalStateException: there would be more than 300 trees", Promise02LeafTest::oneTooMany);
        CHECK.test("Of several the one that stands first behind throws", Promise02LeafTest::argumentFirst);
        CHECK.test("nothing changes", Promise02LeafTest::refused);
        CHECK.end();
    }

    private static void names() {
        Counted x = new Counted();
        for (int name = 0; name < 20; name++) {
            int n = name;
            CHECK.due("leaf(" + n + ")", () -> x.leaf(n), n);
            CHECK.due("its head", () -> x.head(n), -1 - n);
        }
        CHECK.due("all of them", () -> x.count(0), 20);
    }

    private static void noSuchName() {
        Counted x = new Counted();
        CHECK.noArgument("leaf(-1)", () -> x.leaf(-1));
        CHECK.noArgument("leaf(20)", () -> x.leaf(20));
        CHECK.noArgument("leaf of the lowest int", () -> x.leaf(Integer.MIN_VALUE));
        CHECK.noArgument("leaf of the highest int", () -> x.leaf(Integer.MAX_VALUE));
    }

    private static void equalOnes() {
        Counted x = new Counted();
        CHECK.due("leaf(0)", () -> x.leaf(0), 0);
        CHECK.due("leaf(19)", () -> x.leaf(19), 1);
        CHECK.due("leaf(0) again", () -> x.leaf(0), 0);
        CHECK.due("leaf(19) again", () -> x.leaf(19), 1);
        CHECK.due("two trees", () -> x.count(0), 2);
        CHECK.due("a hole of the same name is another tree", () -> x.hole(0), 2);
        CHECK.due("leaf(0) once more", () -> x.leaf(0), 0);
    }

    private static void nextNumber() {
        Counted x = new Counted();
        CHECK.due("the first", () -> x.leaf(5), 0);
        CHECK.noArgument("a refused one", () -> x.leaf(20));
        CHECK.due("the next behind a refused one", () -> x.leaf(3), 1);
        CHECK.due("one that is there", () -> x.leaf(5), 0);
        CHECK.due("the next behind that", () -> x.leaf(4), 2);
        CHECK.due("a hole", () -> x.hole(0), 3);
        CHECK.due("the next behind a hole", () -> x.leaf(0), 4);
    }

    private static void lastNumber() {
        Counted x = new Counted();
        Scenes.fill(x, x.leaf(0), 299);
        CHECK.due("the 300th tree", () -> x.leaf(19), 299);
        CHECK.due("its head", () -> x.head(299), -20);
        CHECK.due("trees", () -> x.count(0), 300);
    }

    private static void oneTooMany() {
        Counted x = new Counted();
        Scenes.fill(x, x.leaf(0), 300);
        CHECK.noState("a 301st tree", () -> x.leaf(1));
        CHECK.noState("the same once more", () -> x.leaf(1));
        CHECK.due("one that is there", () -> x.leaf(0), 0);
    }

    private static void argumentFirst() {
        Counted x = new Counted();
        Scenes.fill(x, x.leaf(0), 300);
        CHECK.noArgument("leaf(20), and no room", () -> x.leaf(20));
        CHECK.noArgument("leaf(-1), and no room", () -> x.leaf(-1));
    }

    private static void refused() {
        Counted x = new Counted();
        Scenes.fill(x, x.leaf(0), 298);
        CHECK.nothingChanges(x, () -> {
            CHECK.noArgument("leaf(-1)", () -> x.leaf(-1));
            CHECK.noArgument("leaf(20)", () -> x.leaf(20));
        });
        x.leaf(2);
        x.leaf(3);
        CHECK.nothingChanges(x, () -> CHECK.noState("leaf(1) without room", () -> x.leaf(1)));
        CHECK.noIndex("there is no tree 300", () -> x.head(300));
    }
}
