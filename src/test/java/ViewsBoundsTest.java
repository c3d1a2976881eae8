/** The boundary cases of promises 10 to 13; above each case the words that name it. */
public final class ViewsBoundsTest {
    private static final int NONE = Run.NONE;
    private static final int MIN = Integer.MIN_VALUE;
    private static final int MAX = Integer.MAX_VALUE;

    public static void main(String[] args) {
        Cases.runAll(ViewsBoundsTest.class);
    }

    /** look: "what 0: shape": the first one, and the last one of 200. */
    static void lookShape() {
        Run x = Runs.withRoomFor(1);
        x.due(x.look(2, 0), 0);
        x.set(2, 3, 1);
        x.due(x.look(2, 0), 199);
    }

    /** look: "1: prototype (NONE)". */
    static void lookPrototype() {
        Run x = Runs.chain(60);
        x.due(x.look(0, 1), NONE);
        x.due(x.look(1, 1), 0);
        x.due(x.look(59, 1), 58);
        x.turn(59, NONE);
        x.due(x.look(59, 1), NONE);
    }

    /** look: "2: how many properties of its own": from none to twelve, not those above. */
    static void lookProperties() {
        Run x = Runs.chain(2);
        for (int name = 0; name <= 11; name++) {
            x.due(x.look(0, 2), name);
            x.set(0, name, 1);
        }
        x.due(x.look(0, 2), 12);
        x.due(x.look(1, 2), 0);
    }

    /** look: "3: how often it has CHANGED": from never on, and not by what is refused. */
    static void lookChanges() {
        Run x = Runs.chain(2);
        x.due(x.look(1, 3), 0);
        x.set(1, 12, 1);
        x.drop(1, 3);
        x.turn(1, 1);
        x.find(1, 3);
        x.read(1, 3);
        x.object(1);
        x.due(x.look(1, 3), 0);
        x.set(1, 3, 1);
        x.set(1, 3, 2);
        x.turn(1, 0);
        x.drop(1, 3);
        x.due(x.look(1, 3), 3);
        x.due(x.look(0, 3), 0);
        x.due(x.look(2, 3), 0);
    }

    /** look: "4: how many are above it": from none to 59, and after a turn. */
    static void lookAbove() {
        Run x = Runs.chain(60);
        x.due(x.look(0, 4), 0);
        x.due(x.look(1, 4), 1);
        x.due(x.look(59, 4), 59);
        x.turn(30, NONE);
        x.due(x.look(30, 4), 0);
        x.due(x.look(59, 4), 29);
        x.due(x.look(29, 4), 29);
    }

    /** look: "5: how many have it above them": from none to 59, near and far ones. */
    static void lookBelow() {
        Run x = Runs.chain(60);
        x.due(x.look(59, 5), 0);
        x.due(x.look(58, 5), 1);
        x.due(x.look(0, 5), 59);
        x.turn(30, NONE);
        x.due(x.look(30, 5), 29);
        x.due(x.look(0, 5), 29);
        Run wide = Runs.flat(1);
        for (int i = 1; i < 60; i++) {
            wide.object(0);
        }
        wide.due(wide.look(0, 5), 59);
        wide.due(wide.look(59, 5), 0);
        wide.due(wide.look(59, 4), 1);
    }

    /** look: "4: how many are above it, 5: how many have it above them": object 0 below others. */
    static void lookAboveAndBelowWithTheFirstOneBelow() {
        Run x = Runs.flat(4);
        x.turn(0, 3);
        x.turn(3, 2);
        x.turn(1, 0);
        x.looks(0, 1, 3, 0, 1, 2, 1);
        x.looks(1, x.look(1, 0), 0, 0, 1, 3, 0);
        x.looks(2, 0, NONE, 0, 0, 0, 3);
        x.looks(3, x.look(3, 0), 2, 0, 1, 1, 2);
    }

    /** look: "NONE for another one": an object that is not there. */
    static void lookAtAnotherOne() {
        Run x = Runs.flat(2);
        for (int object : new int[] {2, 3, 59, 60, -1, -2, MIN, MAX}) {
            for (int what = 0; what <= 5; what++) {
                x.due(x.look(object, what), NONE);
            }
        }
        x.due(x.look(1, 2), 0);
    }

    /** look: "NONE for another .. what". */
    static void lookForAnotherWhat() {
        Run x = Runs.chain(2);
        x.set(1, 0, 1);
        for (int what : new int[] {-1, -2, 6, 7, MIN, MAX}) {
            x.unchanged(NONE, y -> y.look(1, what));
            x.due(x.look(2, what), NONE);
        }
        x.due(x.look(1, 5), 0);
        x.due(x.look(1, 0), 2);
    }

    /** shape: "what 0: prototype (NONE)": also of one that no object has any more. */
    static void shapePrototype() {
        Run x = Runs.chain(60);
        x.due(x.shape(0, 0), NONE);
        x.due(x.shape(59, 0), 58);
        x.turn(0, 59);
        x.due(x.shape(0, 0), NONE);
        x.turn(59, NONE);
        x.due(x.shape(59, 0), 58);
    }

    /** shape: "1: how many names": from none to twelve. */
    static void shapeNames() {
        Run x = Runs.flat(1);
        for (int name = 11; name >= 0; name--) {
            x.set(0, name, 1);
        }
        for (int shape = 0; shape <= 12; shape++) {
            x.due(x.shape(shape, 1), shape);
        }
    }

    /** shape: "2: how many objects have it": from none to 60. */
    static void shapeObjects() {
        Run x = new Run();
        x.due(x.shape(0, 2), 0);
        for (int i = 0; i < 60; i++) {
            x.object(NONE);
            x.due(x.shape(0, 2), i + 1);
        }
        x.set(59, 0, 1);
        x.due(x.shape(0, 2), 59);
        x.due(x.shape(1, 2), 1);
        x.drop(59, 0);
        x.due(x.shape(0, 2), 60);
        x.due(x.shape(1, 2), 0);
    }

    /** shape: "3: the shape that it came out of by one name more (NONE of an EMPTY one)". */
    static void shapeOrigin() {
        Run x = Runs.chain(2);
        x.due(x.shape(0, 3), NONE);
        x.due(x.shape(1, 3), NONE);
        x.set(0, 1, 1);
        x.set(1, 1, 1);
        x.set(0, 2, 1);
        x.due(x.shape(2, 3), 0);
        x.due(x.shape(3, 3), 1);
        x.due(x.shape(4, 3), 2);
    }

    /** shape: "4 + i: name i": the first and the last of twelve, and none behind the last one. */
    static void shapeNameAt() {
        Run x = Runs.flat(1);
        for (int name = 11; name >= 0; name--) {
            x.set(0, name, 1);
        }
        for (int i = 0; i <= 11; i++) {
            x.due(x.shape(12, 4 + i), 11 - i);
        }
        x.due(x.shape(12, 16), NONE);
        x.due(x.shape(11, 14), 1);
        x.due(x.shape(11, 15), NONE);
        x.due(x.shape(1, 4), 11);
        x.due(x.shape(1, 5), NONE);
        x.due(x.shape(0, 4), NONE);
    }

    /** shape: "NONE for another one": a shape that is not there. */
    static void shapeAnotherOne() {
        Run x = Runs.chain(2);
        for (int shape : new int[] {2, 3, 199, 200, -1, -2, MIN, MAX}) {
            for (int what = 0; what <= 5; what++) {
                x.due(x.shape(shape, what), NONE);
            }
        }
        x.due(x.shape(1, 1), 0);
    }

    /** shape: "NONE for another one": 199 is the last that can be. */
    static void shapeTwoHundred() {
        Run x = Runs.withRoomFor(0);
        x.due(x.shape(199, 1) >= 1 ? 1 : 0, 1);
        for (int what = 0; what <= 4; what++) {
            x.due(x.shape(200, what), NONE);
        }
    }

    /** shape: "NONE for another .. what". */
    static void shapeAnotherWhat() {
        Run x = Runs.flat(1);
        for (int name = 0; name <= 11; name++) {
            x.set(0, name, 1);
        }
        for (int what : new int[] {-1, -2, 16, 17, 199, 200, MIN, MIN + 3, MIN + 4, MAX}) {
            x.unchanged(NONE, y -> y.shape(12, what));
            x.due(x.shape(13, what), NONE);
        }
    }

    /** finding: "what 0: shape, 1: name": those of the time of find, also when the object leaves. */
    static void findingShapeAndName() {
        Run x = Runs.chain(2);
        x.find(0, 0);
        x.find(1, 11);
        x.set(0, 3, 1);
        x.turn(1, NONE);
        x.due(x.finding(0, 0), 0);
        x.due(x.finding(0, 1), 0);
        x.due(x.finding(1, 0), 1);
        x.due(x.finding(1, 1), 11);
    }

    /** finding: "2: 0, 1, 2 (where), 3: HOLDER (NONE), 4: PLACE (NONE)": nowhere neither. */
    static void findingNowhere() {
        Run x = Runs.chain(2);
        x.find(1, 4);
        x.findings(0, 1, 4, 0, NONE, NONE, 1);
    }

    /** finding: "3: HOLDER (NONE)": none where it is in the object itself, which has a PLACE. */
    static void findingInItself() {
        Run x = Runs.chain(2);
        x.set(1, 4, 1);
        x.set(1, 0, 1);
        x.find(1, 0);
        x.findings(0, 3, 0, 1, NONE, 1, 1);
    }

    /** finding: "3: HOLDER": object 0 and object 59 can be it. */
    static void findingInOneAbove() {
        Run x = Runs.chain(60);
        x.turn(59, NONE);
        x.turn(0, 59);
        x.set(59, 4, 1);
        x.find(58, 4);
        x.findings(0, 58, 4, 2, 59, 0, 1);
        x.set(0, 5, 1);
        x.set(0, 4, 1);
        x.find(58, 4);
        x.findings(1, 58, 4, 2, 0, 1, 1);
    }

    /** finding: "5: 1 if it HOLDS": 0 if not, while it tells the rest as before. */
    static void findingThatDoesNotHold() {
        Run x = Runs.chain(2);
        x.set(0, 5, 1);
        x.set(0, 4, 1);
        x.find(1, 4);
        x.find(1, 6);
        x.drop(0, 5);
        x.findings(0, 1, 4, 2, 0, 1, 0);
        x.findings(1, 1, 6, 0, NONE, NONE, 0);
    }

    /** finding: "NONE for another one": a finding that is not there. */
    static void findingAnotherOne() {
        Run x = Runs.flat(1);
        x.find(0, 0);
        for (int finding : new int[] {1, 2, 99, 100, -1, -2, MIN, MAX}) {
            for (int what = 0; what <= 5; what++) {
                x.due(x.finding(finding, what), NONE);
            }
        }
        x.due(x.finding(0, 5), 1);
    }

    /** finding: "NONE for another one": 99 is the last that can be, also when more were made. */
    static void findingOneHundred() {
        Run x = Runs.flat(1);
        for (int i = 0; i < 99; i++) {
            x.find(0, 0);
        }
        x.due(x.finding(99, 5), NONE);
        x.find(0, 0);
        x.due(x.finding(99, 5), 1);
        x.due(x.finding(100, 5), NONE);
        x.find(0, 0);
        x.due(x.finding(100, 5), NONE);
    }

    /** finding: "NONE for another .. what". */
    static void findingAnotherWhat() {
        Run x = Runs.flat(1);
        x.find(0, 0);
        for (int what : new int[] {-1, -2, 6, 7, MIN, MAX}) {
            x.unchanged(NONE, y -> y.finding(0, what));
            x.due(x.finding(1, what), NONE);
        }
    }

    /** count: "what 0: objects": from none to 60. */
    static void countObjects() {
        Run x = new Run();
        for (int i = 0; i < 60; i++) {
            x.due(x.count(0), i);
            x.object(NONE);
        }
        x.due(x.count(0), 60);
        x.object(NONE);
        x.due(x.count(0), 60);
    }

    /** count: "1: shapes": from 1 to 200; they stay when no object has them. */
    static void countShapes() {
        Run x = new Run();
        x.due(x.count(1), 1);
        x.object(NONE);
        x.set(0, 0, 1);
        x.due(x.count(1), 2);
        x.drop(0, 0);
        x.due(x.count(1), 2);
        Run full = Runs.withRoomFor(1);
        full.due(full.count(1), 199);
        full.set(2, 3, 1);
        full.due(full.count(1), 200);
        full.set(2, 4, 1);
        full.due(full.count(1), 200);
    }

    /** count: "2: findings that were made": also those that have given way. */
    static void countFindingsMade() {
        Run x = Runs.flat(1);
        for (int i = 0; i < 201; i++) {
            x.due(x.count(2), i);
            x.find(0, 0);
        }
        x.due(x.count(2), 201);
        x.find(1, 0);
        x.find(0, 12);
        x.due(x.count(2), 201);
    }

    /** count: "3: findings that are there and HOLD": from none to 100, never more. */
    static void countFindingsThatHold() {
        Run x = Runs.flat(1);
        x.due(x.count(3), 0);
        for (int i = 0; i < 100; i++) {
            x.find(0, 0);
            x.due(x.count(3), i + 1);
        }
        x.find(0, 0);
        x.due(x.count(3), 100);
    }

    /** count: "3: findings that are there and HOLD": whether or not an object has their shape. */
    static void countFindingsThatAreBroken() {
        Run x = Runs.chain(2);
        x.find(1, 0);
        x.find(1, 1);
        x.find(0, 0);
        x.due(x.count(3), 3);
        x.turn(1, NONE);
        x.due(x.count(3), 3);
        x.set(0, 5, 1);
        x.due(x.count(3), 1);
        x.due(x.count(2), 3);
    }

    /** count: "NONE for another what". */
    static void countAnotherWhat() {
        Run x = Runs.flat(1);
        for (int what : new int[] {-1, -2, 4, 5, MIN, MAX}) {
            x.unchanged(NONE, y -> y.count(what));
        }
    }
}
