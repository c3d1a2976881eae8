/** The boundary cases of promise 6, read; above each case the words that name it. */
public final class ReadBoundsTest {
    private static final int NONE = Run.NONE;
    private static final int MIN = Integer.MIN_VALUE;
    private static final int MAX = Integer.MAX_VALUE;

    public static void main(String[] args) {
        Cases.runAll(ReadBoundsTest.class);
    }

    /** "its own": whatever stands above it. */
    static void itsOwn() {
        Run x = Runs.chain(3);
        for (int object = 0; object < 3; object++) {
            x.set(object, 6, 60 + object);
        }
        for (int object = 0; object < 3; object++) {
            x.due(x.read(object, 6), 60 + object);
        }
    }

    /** "its own": of those with all twelve names the first and the last one. */
    static void theFirstAndTheLastName() {
        Run x = Runs.flat(1);
        for (int name = 11; name >= 0; name--) {
            x.set(0, name, 100 + name);
        }
        x.due(x.read(0, 0), 100);
        x.due(x.read(0, 11), 111);
    }

    /** "or that of the nearest above": just above, between, and at the end of the longest way. */
    static void theNearestAbove() {
        Run x = Runs.chain(60);
        x.set(0, 6, 600);
        x.due(x.read(59, 6), 600);
        x.set(30, 6, 630);
        x.due(x.read(59, 6), 630);
        x.due(x.read(31, 6), 630);
        x.due(x.read(29, 6), 600);
        x.set(58, 6, 658);
        x.due(x.read(59, 6), 658);
        x.due(x.read(57, 6), 630);
    }

    /** "or that of the nearest above": by the prototypes, not by the numbers. */
    static void theNearestByThePrototypes() {
        Run x = Runs.flat(3);
        x.turn(0, 2);
        x.turn(2, 1);
        x.set(1, 6, 61);
        x.due(x.read(0, 6), 61);
        x.set(2, 6, 62);
        x.due(x.read(0, 6), 62);
        x.due(x.read(1, 6), 61);
    }

    /** "IllegalArgumentException if there is no such object". */
    static void noSuchObject() {
        Run x = Runs.flat(2);
        x.set(0, 0, 1);
        x.set(1, 0, 1);
        for (int object : new int[] {2, 3, 59, 60, -1, -2, MIN, MAX}) {
            x.unchanged(Check.ARGUMENT, y -> y.read(object, 0));
        }
        x.due(x.read(1, 0), 1);
    }

    /** "IndexOutOfBoundsException if it is nowhere": none above, and many above. */
    static void nowhere() {
        Run x = Runs.chain(60);
        x.unchanged(Check.INDEX, y -> y.read(0, 6));
        x.unchanged(Check.INDEX, y -> y.read(59, 6));
        x.set(59, 6, 1);
        x.unchanged(Check.INDEX, y -> y.read(58, 6));
    }

    /** "IndexOutOfBoundsException if it is nowhere": gone, or the way to it is cut. */
    static void nowhereAnyMore() {
        Run x = Runs.chain(2);
        x.set(0, 6, 1);
        x.due(x.read(1, 6), 1);
        x.turn(1, NONE);
        x.unchanged(Check.INDEX, y -> y.read(1, 6));
        x.drop(0, 6);
        x.unchanged(Check.INDEX, y -> y.read(0, 6));
    }

    /** "IndexOutOfBoundsException if it is nowhere": what is no name is nowhere. */
    static void noSuchName() {
        Run x = Runs.chain(2);
        for (int name = 0; name <= 11; name++) {
            x.set(0, name, 1);
        }
        for (int name : new int[] {-1, -2, 12, 13, MIN, MAX}) {
            x.unchanged(Check.INDEX, y -> y.read(0, name));
            x.unchanged(Check.INDEX, y -> y.read(1, name));
        }
    }

    /** "A property's value": to read it changes nothing. */
    static void readChangesNothing() {
        Run x = Runs.chain(2);
        x.set(0, 6, 1);
        x.find(1, 6);
        x.unchanged(1, y -> y.read(0, 6));
        x.unchanged(1, y -> y.read(1, 6));
    }
}
