/** The boundary cases of promises 1 and 2; above each case the words that name it. */
public final class ObjectBoundsTest {
    private static final int NONE = Run.NONE;

    public static void main(String[] args) {
        Cases.runAll(ObjectBoundsTest.class);
    }

    /** Promise 1: "No objects; shape 0." */
    static void atFirst() {
        Run x = new Run();
        x.counts(0, 1, 0, 0);
        x.looks(0, NONE, NONE, NONE, NONE, NONE, NONE);
        x.shapes(0, NONE, 0, 0, NONE, NONE);
        x.findings(0, NONE, NONE, NONE, NONE, NONE, NONE);
    }

    /** Promise 1: at first nothing can be done but to make an object. */
    static void atFirstAllElseIsRefused() {
        Run x = new Run();
        x.unchanged(Check.ARGUMENT, y -> y.object(0));
        x.unchanged(0, y -> y.set(0, 0, 0));
        x.unchanged(0, y -> y.drop(0, 0));
        x.unchanged(0, y -> y.turn(0, NONE));
        x.unchanged(0, y -> y.turn(NONE, NONE));
        x.unchanged(Check.ARGUMENT, y -> y.read(0, 0));
        x.unchanged(NONE, y -> y.find(0, 0));
        x.unchanged(0, y -> y.holds(0, 0));
        x.unchanged(Check.ARGUMENT, y -> y.get(0, 0));
    }

    /** Promise 1: two of the class have nothing in common. */
    static void twoAreApart() {
        Run one = new Run();
        Run other = new Run();
        one.object(NONE);
        one.set(0, 1, 5);
        one.find(0, 1);
        other.counts(0, 1, 0, 0);
        other.due(other.object(NONE), 0);
        other.due(other.read(0, 1), Check.INDEX);
        other.due(other.holds(0, 0), 0);
        one.due(one.read(0, 1), 5);
    }

    /** Promise 2: "An object without properties, with a prototype ..: its number." */
    static void aNewObjectIsEmpty() {
        Run x = Runs.flat(1);
        x.set(0, 3, 30);
        x.due(x.object(0), 1);
        x.looks(1, 2, 0, 0, 0, 1, 0);
        x.due(x.drop(1, 3), 0);
        x.looks(0, 1, NONE, 1, 1, 0, 1);
    }

    /** Promise 2: "(NONE: none)". */
    static void withoutAPrototype() {
        Run x = Runs.chain(2);
        x.due(x.object(NONE), 2);
        x.looks(2, 0, NONE, 0, 0, 0, 0);
        x.due(x.shape(0, 2), 2);
    }

    /** Promise 2: "IllegalArgumentException if that is not there": the first number that is not. */
    static void aPrototypeThatIsNotThere() {
        Run x = Runs.flat(3);
        for (int prototype : new int[] {3, 4, 59, 60, -2, Integer.MIN_VALUE, Integer.MAX_VALUE}) {
            x.unchanged(Check.ARGUMENT, y -> y.object(prototype));
        }
        x.due(x.object(2), 3);
        x.due(x.object(3), 4);
    }

    /** Promise 2: "IllegalStateException if there are 60": for each kind of prototype. */
    static void sixtyAreThere() {
        Run x = Runs.chain(59);
        x.due(x.object(58), 59);
        x.unchanged(Check.STATE, y -> y.object(NONE));
        x.unchanged(Check.STATE, y -> y.object(0));
        x.unchanged(Check.STATE, y -> y.object(59));
        x.counts(60, 60, 0, 0);
    }

    /** Promise 2: "or no room for a shape": the EMPTY one of a prototype that is new as one. */
    static void noRoomForTheEmptyOne() {
        Run x = Runs.withRoomFor(0);
        x.unchanged(Check.STATE, y -> y.object(1));
        x.unchanged(Check.STATE, y -> y.object(2));
        x.unchanged(Check.STATE, y -> y.object(4));
    }

    /** Promise 2: "or no room for a shape": none is wanted where the EMPTY one is there. */
    static void noRoomIsWantedForAnEmptyOneThatIsThere() {
        Run x = Runs.withRoomFor(0);
        int objects = x.count(0);
        x.due(x.object(NONE), objects);
        x.due(x.look(objects, 0), 0);
        x.due(x.object(0), objects + 1);
        x.due(x.shape(x.look(objects + 1, 0), 0), 0);
        x.due(x.count(1), 200);
    }

    /** Promise 2: "or no room for a shape": the last room is enough for one. */
    static void theLastRoomIsTaken() {
        Run x = Runs.withRoomFor(1);
        int objects = x.count(0);
        x.due(x.object(2), objects);
        x.looks(objects, 199, 2, 0, 0, 1, 0);
        x.shapes(199, 2, 0, 1, NONE, NONE);
        x.unchanged(Check.STATE, y -> y.object(4));
        x.due(x.object(2), objects + 1);
        x.due(x.look(objects + 1, 0), 199);
    }

    /** Promise 2: "if there are 60, or no room for a shape": both at once. */
    static void sixtyAreThereAndNoRoom() {
        Run x = Runs.withRoomFor(0);
        for (int i = x.count(0); i < 60; i++) {
            x.due(x.object(NONE), i);
        }
        x.unchanged(Check.STATE, y -> y.object(2));
        x.unchanged(Check.STATE, y -> y.object(NONE));
        x.unchanged(Check.ARGUMENT, y -> y.object(60));
    }
}
