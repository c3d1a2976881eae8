/** The boundary cases of promise 3, set; above each case the words that name it. */
public final class SetBoundsTest {
    private static final int NONE = Run.NONE;
    private static final int MIN = Integer.MIN_VALUE;
    private static final int MAX = Integer.MAX_VALUE;

    public static void main(String[] args) {
        Cases.runAll(SetBoundsTest.class);
    }

    /** "A property gets a value; it is there then: true": a new one, and one that is there. */
    static void aNewOneAndOneThatIsThere() {
        Run x = Runs.flat(1);
        x.due(x.set(0, 4, 1), 1);
        x.looks(0, 1, NONE, 1, 1, 0, 0);
        x.due(x.set(0, 4, 2), 1);
        x.looks(0, 1, NONE, 1, 1, 0, 0);
        x.due(x.read(0, 4), 2);
    }

    /** "A property gets a value": its own, where one above has one of that name. */
    static void theOneAboveKeepsItsOwn() {
        Run x = Runs.chain(2);
        x.set(0, 4, 1);
        x.due(x.set(1, 4, 2), 1);
        x.due(x.read(0, 4), 1);
        x.due(x.read(1, 4), 2);
        x.due(x.look(1, 2), 1);
        x.due(x.look(0, 3), 1);
    }

    /** "A property gets a value": the others of the object and of its shape keep theirs. */
    static void theOthersKeepTheirs() {
        Run x = Runs.flat(2);
        for (int name = 0; name <= 11; name++) {
            x.set(0, name, name);
            x.set(1, name, 100 + name);
        }
        x.due(x.set(0, 0, 50), 1);
        x.due(x.set(0, 11, 61), 1);
        for (int name = 1; name <= 10; name++) {
            x.due(x.read(0, name), name);
        }
        for (int name = 0; name <= 11; name++) {
            x.due(x.read(1, name), 100 + name);
        }
    }

    /** "false if there is no such object": just beyond the last one, and far away. */
    static void noSuchObject() {
        Run x = Runs.flat(2);
        for (int object : new int[] {2, 3, 59, 60, -1, -2, MIN, MAX}) {
            x.unchanged(0, y -> y.set(object, 0, 1));
        }
        x.due(x.set(1, 0, 1), 1);
    }

    /** "false if there is no such .. name": just beyond the edges, and far away. */
    static void noSuchName() {
        Run x = Runs.flat(1);
        for (int name : new int[] {-1, -2, 12, 13, MIN, MAX}) {
            x.unchanged(0, y -> y.set(0, name, 1));
        }
        x.due(x.set(0, 0, 1), 1);
        x.due(x.set(0, 11, 1), 1);
    }

    /** "false if there is no such object or name": neither. */
    static void neitherObjectNorName() {
        Run x = Runs.flat(1);
        x.unchanged(0, y -> y.set(1, 12, 1));
        x.unchanged(0, y -> y.set(-1, -1, -1));
        x.unchanged(0, y -> y.set(MIN, MAX, MIN));
    }

    /** "or no room for a shape": a name that is new to the shape. */
    static void noRoom() {
        Run x = Runs.withRoomFor(0);
        x.find(0, 3);
        x.find(1, 3);
        x.unchanged(0, y -> y.set(0, 3, 1));
        x.unchanged(0, y -> y.set(1, 0, 1));
        x.unchanged(0, y -> y.set(2, 1, 1));
    }

    /** "or no room for a shape": a value alone wants none. */
    static void noRoomIsWantedForAValue() {
        Run x = Runs.withRoomFor(0);
        x.due(x.set(0, 1, 99), 1);
        x.due(x.read(0, 1), 99);
        x.due(x.read(0, 0), 10);
        x.due(x.read(0, 2), 12);
        x.due(x.look(0, 3), 3);
    }

    /** "or no room for a shape": a shape that is there wants none. */
    static void noRoomIsWantedForAShapeThatIsThere() {
        Run x = Runs.withRoomFor(0);
        x.due(x.set(2, 0, 5), 1);
        x.due(x.set(2, 1, 6), 1);
        x.due(x.set(2, 2, 7), 1);
        x.due(x.look(2, 0), x.look(0, 0));
        x.due(x.look(2, 3), 3);
        x.due(x.count(1), 200);
    }

    /** "or no room for a shape": the last room is enough for one. */
    static void theLastRoomIsTaken() {
        Run x = Runs.withRoomFor(1);
        x.due(x.set(0, 3, 13), 1);
        x.due(x.look(0, 0), 199);
        x.due(x.read(0, 3), 13);
        x.unchanged(0, y -> y.set(0, 4, 14));
        x.unchanged(0, y -> y.set(1, 3, 14));
    }

    /** "no such .. name": the same where all twelve are there. */
    static void twelveAreThere() {
        Run x = Runs.flat(1);
        for (int name = 11; name >= 0; name--) {
            x.due(x.set(0, name, name), 1);
        }
        x.unchanged(0, y -> y.set(0, 12, 1));
        x.unchanged(0, y -> y.set(0, -1, 1));
        x.due(x.set(0, 11, 70), 1);
        x.due(x.set(0, 0, 71), 1);
        x.due(x.read(0, 11), 70);
        x.due(x.read(0, 0), 71);
        x.due(x.count(1), 13);
    }

    /** "A property gets a value": in the 60th object as in the first one. */
    static void theLastObject() {
        Run x = Runs.flat(60);
        x.due(x.set(59, 11, 5), 1);
        x.due(x.read(59, 11), 5);
        x.due(x.look(59, 3), 1);
        x.unchanged(0, y -> y.set(60, 11, 5));
    }
}
