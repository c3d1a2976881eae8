/** The boundary cases of promise 4, drop; above each case the words that name it. */
public final class DropBoundsTest {
    private static final int NONE = Run.NONE;
    private static final int MIN = Integer.MIN_VALUE;
    private static final int MAX = Integer.MAX_VALUE;

    public static void main(String[] args) {
        Cases.runAll(DropBoundsTest.class);
    }

    private static Run withAllNames() {
        Run x = Runs.flat(1);
        for (int name = 0; name <= 11; name++) {
            x.set(0, name, 100 + name);
        }
        return x;
    }

    /** "A property goes: true": the first, a middle and the last of twelve; the others stay. */
    static void oneOfTwelve() {
        for (int gone : new int[] {0, 5, 11}) {
            Run x = withAllNames();
            x.due(x.drop(0, gone), 1);
            x.due(x.look(0, 2), 11);
            x.due(x.look(0, 3), 13);
            for (int name = 0; name <= 11; name++) {
                x.due(x.read(0, name), name == gone ? Check.INDEX : 100 + name);
            }
            for (int i = 0; i < 11; i++) {
                x.due(x.shape(x.look(0, 0), 4 + i), i < gone ? i : i + 1);
            }
            x.due(x.shape(x.look(0, 0), 15), NONE);
        }
    }

    /** Terms: "by its names (those that are left) one by one, in order": theirs, not the numbers'. */
    static void thoseThatAreLeftKeepTheirOrder() {
        Run x = Runs.flat(1);
        for (int name : new int[] {9, 4, 11, 0, 7}) {
            x.set(0, name, 100 + name);
        }
        x.due(x.drop(0, 4), 1);
        x.shapes(x.look(0, 0), NONE, 4, 1, 7, 9, 11, 0, 7, NONE);
        x.due(x.drop(0, 9), 1);
        x.shapes(x.look(0, 0), NONE, 3, 1, 10, 11, 0, 7, NONE);
        x.due(x.read(0, 11), 111);
        x.due(x.read(0, 0), 100);
        x.due(x.read(0, 7), 107);
    }

    /** "A property goes: true": the only one; nothing is left then. */
    static void theOnlyOne() {
        Run x = Runs.chain(2);
        x.set(1, 0, 1);
        x.due(x.drop(1, 0), 1);
        x.looks(1, 1, 0, 0, 2, 1, 0);
        x.due(x.read(1, 0), Check.INDEX);
        x.unchanged(0, y -> y.drop(1, 0));
    }

    /** "A property goes": that of one above is seen then. */
    static void theOneAboveIsSeenThen() {
        Run x = Runs.chain(2);
        x.set(0, 7, 70);
        x.set(1, 7, 71);
        x.due(x.drop(1, 7), 1);
        x.due(x.read(1, 7), 70);
        x.due(x.look(0, 3), 1);
    }

    /** "A property goes": when it comes again, it is with its new value alone. */
    static void itComesAgain() {
        Run x = withAllNames();
        x.due(x.drop(0, 3), 1);
        x.due(x.set(0, 3, 5), 1);
        x.due(x.shape(x.look(0, 0), 15), 3);
        x.due(x.read(0, 3), 5);
        x.due(x.read(0, 11), 111);
        x.due(x.read(0, 4), 104);
    }

    /** "false if there is none of its own": no such name among them, or it has gone already. */
    static void noneOfItsOwn() {
        Run x = Runs.flat(1);
        x.unchanged(0, y -> y.drop(0, 0));
        x.set(0, 0, 1);
        x.set(0, 11, 1);
        x.unchanged(0, y -> y.drop(0, 1));
        x.unchanged(0, y -> y.drop(0, 10));
        x.due(x.drop(0, 0), 1);
        x.unchanged(0, y -> y.drop(0, 0));
    }

    /** "false if there is none of its own": one above or below has it. */
    static void anotherHasIt() {
        Run x = Runs.chain(3);
        x.set(0, 4, 1);
        x.set(2, 4, 1);
        x.unchanged(0, y -> y.drop(1, 4));
        x.due(x.read(1, 4), 1);
    }

    /** "false if there is none of its own": there is no such object. */
    static void noSuchObject() {
        Run x = Runs.flat(2);
        x.set(0, 0, 1);
        x.set(1, 0, 1);
        for (int object : new int[] {2, 3, 59, 60, -1, -2, MIN, MAX}) {
            x.unchanged(0, y -> y.drop(object, 0));
        }
        x.due(x.drop(1, 0), 1);
    }

    /** "false if there is none of its own": there is no such name. */
    static void noSuchName() {
        Run x = withAllNames();
        for (int name : new int[] {-1, -2, 12, 13, MIN, MAX}) {
            x.unchanged(0, y -> y.drop(0, name));
        }
    }

    /** "or no room for shapes": one is missing. */
    static void noRoomForOne() {
        Run x = Runs.withRoomFor(0);
        x.find(1, 1);
        x.find(0, 1);
        // wants [0 2]
        x.unchanged(0, y -> y.drop(0, 1));
        // wants [6] below 0
        x.unchanged(0, y -> y.drop(1, 5));
    }

    /** "or no room for shapes": two are missing where there is room for one; none is made. */
    static void noRoomForTwo() {
        Run x = Runs.withRoomFor(1);
        // wants [1] and [1 2]
        x.unchanged(0, y -> y.drop(0, 0));
        // wants [0 2]
        x.due(x.drop(0, 1), 1);
        x.due(x.look(0, 0), 199);
        x.shapes(199, NONE, 2, 1, x.shape(199, 3), 0, 2, NONE);
        x.due(x.read(0, 2), 12);
    }

    /** "or no room for shapes": just enough for two. */
    static void theLastRoomIsTaken() {
        Run x = Runs.withRoomFor(2);
        x.due(x.drop(0, 0), 1);
        x.due(x.look(0, 0), 199);
        x.due(x.shape(199, 3), 198);
        x.due(x.shape(198, 3), 0);
        x.due(x.count(1), 200);
    }

    /** "or no room for shapes": none is wanted where all on the way are there. */
    static void noRoomIsWantedForShapesThatAreThere() {
        Run x = Runs.withRoomFor(0);
        x.due(x.drop(0, 2), 1);
        x.due(x.drop(0, 1), 1);
        x.due(x.drop(0, 0), 1);
        x.due(x.look(0, 0), 0);
        x.due(x.drop(1, 6), 1);
        x.due(x.drop(1, 5), 1);
        x.due(x.look(1, 2), 0);
        x.due(x.count(1), 200);
    }

    /** "A property goes": in the 60th object as in the first one. */
    static void theLastObject() {
        Run x = Runs.flat(60);
        x.set(59, 11, 5);
        x.due(x.drop(59, 11), 1);
        x.looks(59, 0, NONE, 0, 2, 0, 0);
    }
}
