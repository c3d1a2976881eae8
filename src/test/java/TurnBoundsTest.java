/** The boundary cases of promise 5, turn; above each case the words that name it. */
public final class TurnBoundsTest {
    private static final int NONE = Run.NONE;
    private static final int MIN = Integer.MIN_VALUE;
    private static final int MAX = Integer.MAX_VALUE;

    public static void main(String[] args) {
        Cases.runAll(TurnBoundsTest.class);
    }

    /** "Another prototype ..: true": with no names and with all twelve; the values stay. */
    static void withNoNamesAndWithAll() {
        Run x = Runs.flat(3);
        x.due(x.turn(0, 2), 1);
        x.looks(0, 1, 2, 0, 1, 1, 0);
        for (int name = 0; name <= 11; name++) {
            x.set(1, name, 100 + name);
        }
        x.due(x.count(1), 14);
        x.due(x.turn(1, 2), 1);
        x.due(x.count(1), 26);
        x.looks(1, 25, 2, 12, 13, 1, 0);
        for (int name = 0; name <= 11; name++) {
            x.due(x.read(1, name), 100 + name);
            x.due(x.shape(25, 4 + name), name);
        }
    }

    /** "(NONE: none)": also for one that has none. */
    static void toNone() {
        Run x = Runs.chain(2);
        x.set(0, 4, 40);
        x.due(x.turn(1, NONE), 1);
        x.looks(1, 0, NONE, 0, 1, 0, 0);
        x.due(x.read(1, 4), Check.INDEX);
        x.due(x.look(0, 5), 0);
        x.due(x.turn(1, NONE), 1);
        x.looks(1, 0, NONE, 0, 2, 0, 0);
    }

    /** "Another prototype": also the one that it has. */
    static void toTheOneThatItHas() {
        Run x = Runs.chain(2);
        x.set(1, 4, 40);
        x.due(x.turn(1, 0), 1);
        x.looks(1, 2, 0, 1, 2, 1, 0);
        x.due(x.count(1), 3);
    }

    /** "false if there are no such objects": the object is not there. */
    static void noSuchObject() {
        Run x = Runs.flat(2);
        for (int object : new int[] {2, 3, 59, 60, -1, -2, MIN, MAX}) {
            x.unchanged(0, y -> y.turn(object, 0));
            x.unchanged(0, y -> y.turn(object, NONE));
            x.unchanged(0, y -> y.turn(object, object));
        }
        x.due(x.turn(1, 0), 1);
    }

    /** "false if there are no such objects": the prototype is not there. */
    static void noSuchPrototype() {
        Run x = Runs.flat(2);
        for (int prototype : new int[] {2, 3, 59, 60, -2, MIN, MAX}) {
            x.unchanged(0, y -> y.turn(0, prototype));
        }
        x.due(x.turn(0, 1), 1);
    }

    /** "the object would be above itself": as its own prototype. */
    static void toItself() {
        Run x = Runs.chain(3);
        for (int object = 0; object < 3; object++) {
            int same = object;
            x.unchanged(0, y -> y.turn(same, same));
        }
    }

    /** "the object would be above itself": by the one just below it. */
    static void toTheOneBelow() {
        Run x = Runs.chain(3);
        x.unchanged(0, y -> y.turn(0, 1));
        x.unchanged(0, y -> y.turn(1, 2));
    }

    /** "the object would be above itself": by one far below it, at the end of the longest way. */
    static void toOneFarBelow() {
        Run x = Runs.chain(60);
        x.unchanged(0, y -> y.turn(0, 59));
        x.unchanged(0, y -> y.turn(0, 58));
        x.unchanged(0, y -> y.turn(1, 59));
    }

    /** "the object would be above itself": not so by one above it, nor beside it. */
    static void toOneAboveOrBeside() {
        Run x = Runs.chain(60);
        x.due(x.turn(59, 0), 1);
        x.due(x.look(59, 4), 1);
        x.due(x.turn(58, 59), 1);
        x.due(x.look(58, 4), 2);
        x.due(x.look(0, 5), 59);
        x.unchanged(0, y -> y.turn(59, 58));
    }

    /** "the object would be above itself": what was refused is done when the way is cut. */
    static void theWayIsCut() {
        Run x = Runs.chain(3);
        x.unchanged(0, y -> y.turn(0, 2));
        x.due(x.turn(1, NONE), 1);
        x.due(x.turn(0, 2), 1);
        x.due(x.look(0, 4), 2);
        x.unchanged(0, y -> y.turn(1, 0));
    }

    /** "or no room for shapes": the EMPTY one alone is missing. */
    static void noRoomForTheEmptyOne() {
        Run x = Runs.withRoomFor(0);
        x.find(2, 3);
        x.unchanged(0, y -> y.turn(2, 4));
        x.unchanged(0, y -> y.turn(4, 1));
    }

    /** "or no room for shapes": the EMPTY one is there, one with a name is missing. */
    static void noRoomForOneWithAName() {
        Run x = Runs.withRoomFor(0);
        // 0 and 1 have names; of prototype 0 and of none the EMPTY ones are there
        x.due(x.set(2, 0, 5), 1);
        x.unchanged(0, y -> y.turn(2, 0));
        x.unchanged(0, y -> y.turn(1, NONE));
    }

    /** "or no room for shapes": one too many is wanted; none is made. */
    static void noRoomForAll() {
        for (int left = 0; left <= 2; left++) {
            Run x = Runs.withRoomFor(left);
            x.find(1, 5);
            // wants the EMPTY one, [5] and [5 6]
            x.unchanged(0, y -> y.turn(1, 2));
        }
        Run x = Runs.withRoomFor(3);
        x.unchanged(0, y -> y.turn(0, 4));
    }

    /** "or no room for shapes": just enough for all. */
    static void theLastRoomIsTaken() {
        Run x = Runs.withRoomFor(3);
        x.due(x.turn(1, 2), 1);
        x.looks(1, 199, 2, 2, 3, 1, 0);
        x.shapes(197, 2, 0, 0, NONE, NONE);
        x.shapes(198, 2, 1, 0, 197, 5, NONE);
        x.shapes(199, 2, 2, 1, 198, 5, 6, NONE);
        x.due(x.read(1, 5), 15);
        x.due(x.read(1, 6), 16);
        x = Runs.withRoomFor(4);
        x.due(x.turn(0, 4), 1);
        x.due(x.look(0, 0), 199);
        x.due(x.count(1), 200);
    }

    /** "or no room for shapes": none is wanted where all on the way are there. */
    static void noRoomIsWantedForShapesThatAreThere() {
        Run x = Runs.withRoomFor(0);
        x.due(x.turn(2, 0), 1);
        x.due(x.set(2, 5, 1), 1);
        x.due(x.set(2, 6, 1), 1);
        x.due(x.look(2, 0), x.look(1, 0));
        x.due(x.turn(2, 0), 1);
        x.due(x.turn(0, NONE), 1);
        x.due(x.turn(4, NONE), 1);
        x.due(x.count(1), 200);
    }

    /** "the object would be above itself": told also where there is no room, and for the same end. */
    static void aboveItselfAndNoRoom() {
        Run x = Runs.withRoomFor(0);
        x.unchanged(0, y -> y.turn(0, 1));
        x.unchanged(0, y -> y.turn(0, 0));
        x.unchanged(0, y -> y.turn(2, 2));
    }
}
