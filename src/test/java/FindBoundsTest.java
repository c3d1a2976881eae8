/** The boundary cases of promise 7, find; above each case the words that name it. */
public final class FindBoundsTest {
    private static final int NONE = Run.NONE;
    private static final int MIN = Integer.MIN_VALUE;
    private static final int MAX = Integer.MAX_VALUE;

    public static void main(String[] args) {
        Cases.runAll(FindBoundsTest.class);
    }

    /** "A finding is made for an object's shape and a name: its number": also for the same again. */
    static void eachFindMakesAnother() {
        Run x = Runs.flat(2);
        x.due(x.find(0, 0), 0);
        x.due(x.find(0, 0), 1);
        x.due(x.find(1, 0), 2);
        x.due(x.find(0, 11), 3);
        x.counts(2, 1, 4, 4);
    }

    /** "where the property is: 0 nowhere": with none above, and at the end of the longest way. */
    static void nowhere() {
        Run x = Runs.chain(60);
        x.find(0, 5);
        x.findings(0, 0, 5, 0, NONE, NONE, 1);
        x.find(59, 5);
        x.findings(1, 59, 5, 0, NONE, NONE, 1);
    }

    /** "nowhere": one below has it, or one beside. */
    static void anotherHasIt() {
        Run x = Runs.chain(2);
        x.object(0);
        x.set(2, 5, 1);
        x.find(0, 5);
        x.findings(0, 0, 5, 0, NONE, NONE, 1);
        x.find(1, 5);
        x.findings(1, 1, 5, 0, NONE, NONE, 1);
    }

    /** "1 in the object itself": at the first and at the last PLACE, whatever stands above. */
    static void inItself() {
        Run x = Runs.chain(2);
        x.set(0, 0, 1);
        for (int name = 11; name >= 0; name--) {
            x.set(1, name, 1);
        }
        int shape = x.look(1, 0);
        x.find(1, 11);
        x.findings(0, shape, 11, 1, NONE, 0, 1);
        x.find(1, 0);
        x.findings(1, shape, 0, 1, NONE, 11, 1);
    }

    /** "2 in one above it (the HOLDER), at which PLACE among the names of that": just above. */
    static void inThePrototype() {
        Run x = Runs.chain(2);
        for (int name = 11; name >= 0; name--) {
            x.set(0, name, 1);
        }
        x.find(1, 11);
        x.findings(0, 1, 11, 2, 0, 0, 1);
        x.find(1, 0);
        x.findings(1, 1, 0, 2, 0, 11, 1);
    }

    /** "2 in one above it (the HOLDER)": the nearest one, on a way of 60. */
    static void inTheNearestAbove() {
        Run x = Runs.chain(60);
        x.set(0, 5, 1);
        x.find(59, 5);
        x.findings(0, 59, 5, 2, 0, 0, 1);
        x.set(31, 6, 1);
        x.set(31, 5, 1);
        x.find(59, 5);
        x.findings(1, 59, 5, 2, 31, 1, 1);
        x.set(58, 5, 1);
        x.find(59, 5);
        x.findings(2, 59, 5, 2, 58, 0, 1);
        x.find(58, 6);
        x.findings(3, x.look(58, 0), 6, 2, 31, 0, 1);
    }

    /** "NONE if there is no such object". */
    static void noSuchObject() {
        Run x = Runs.flat(2);
        for (int object : new int[] {2, 3, 59, 60, -1, -2, MIN, MAX}) {
            x.unchanged(NONE, y -> y.find(object, 0));
        }
        x.due(x.find(1, 0), 0);
    }

    /** "NONE if there is no such .. name". */
    static void noSuchName() {
        Run x = Runs.flat(1);
        for (int name : new int[] {-1, -2, 12, 13, MIN, MAX}) {
            x.unchanged(NONE, y -> y.find(0, name));
        }
        x.due(x.find(0, 0), 0);
        x.due(x.find(0, 11), 1);
    }

    /** "NONE if there is no such object or name": also when the ring is full, and none gives way. */
    static void refusedWhenAHundredAreThere() {
        Run x = Runs.flat(1);
        for (int i = 0; i < 100; i++) {
            x.find(0, i % 12);
        }
        x.unchanged(NONE, y -> y.find(1, 0));
        x.unchanged(NONE, y -> y.find(0, 12));
        x.due(x.find(0, 7), 0);
    }

    /** "(100 at most, then the one that was made first gives its place ..)": a broken one too. */
    static void aBrokenOneGivesWayInItsTurn() {
        Run x = Runs.chain(2);
        x.find(1, 0);
        x.find(0, 1);
        x.find(1, 2);
        x.set(0, 5, 50);
        for (int i = 3; i < 100; i++) {
            x.due(x.find(1, 5), i);
        }
        x.counts(2, 3, 100, 98);
        x.due(x.find(1, 6), 0);
        x.due(x.finding(0, 5), 1);
        x.due(x.finding(2, 5), 0);
        x.due(x.find(1, 6), 1);
        x.due(x.find(1, 6), 2);
        x.due(x.finding(2, 5), 1);
        x.counts(2, 3, 103, 100);
    }

    /** "gives its place and number to the new one": the way of the old one is forgotten. */
    static void theNewOneHasItsOwnWay() {
        Run x = Runs.chain(3);
        for (int i = 0; i < 100; i++) {
            x.find(2, 0);
        }
        x.due(x.find(1, 0), 0);
        x.set(1, 3, 1);
        x.due(x.finding(0, 5), 1);
        x.due(x.finding(1, 5), 0);
        x.set(0, 3, 1);
        x.due(x.finding(0, 5), 0);
    }

    /** "A finding is made for an object's shape": no shape is made for it, and nothing changes. */
    static void findMakesNoShape() {
        Run x = Runs.withRoomFor(0);
        int[] changes = {x.look(0, 3), x.look(1, 3)};
        x.due(x.find(1, 0), 0);
        x.due(x.find(4, 11), 1);
        x.due(x.count(1), 200);
        x.due(x.look(0, 3), changes[0]);
        x.due(x.look(1, 3), changes[1]);
    }
}
