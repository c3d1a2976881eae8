/** The boundary cases of promise 9, get; above each case the words that name it. */
public final class GetBoundsTest {
    private static final int NONE = Run.NONE;
    private static final int MIN = Integer.MIN_VALUE;
    private static final int MAX = Integer.MAX_VALUE;

    public static void main(String[] args) {
        Cases.runAll(GetBoundsTest.class);
    }

    /** "The value that is where a finding says": in itself, at the first and at the last place. */
    static void inItself() {
        Run x = Runs.flat(2);
        for (int name = 0; name <= 11; name++) {
            x.set(0, name, 100 + name);
            x.set(1, name, 200 + name);
        }
        x.find(0, 0);
        x.find(0, 11);
        x.due(x.get(0, 0), 100);
        x.due(x.get(1, 0), 111);
        x.due(x.get(0, 1), 200);
        x.due(x.get(1, 1), 211);
    }

    /** "The value that is where a finding says": in one above, near and at the longest way's end. */
    static void inOneAbove() {
        Run x = Runs.chain(60);
        x.set(0, 4, 40);
        x.set(58, 5, 50);
        x.set(58, 6, 60);
        x.due(x.get(x.find(59, 4), 59), 40);
        x.due(x.get(x.find(59, 6), 59), 60);
        x.due(x.get(x.find(1, 4), 1), 40);
    }

    /** "The value that is ..": the one of now, not the one of the time of find. */
    static void theValueOfNow() {
        Run x = Runs.chain(2);
        x.set(0, 4, 40);
        x.set(1, 5, 50);
        x.find(1, 4);
        x.find(1, 5);
        x.set(0, 4, MIN);
        x.set(1, 5, MAX);
        x.due(x.get(0, 1), MIN);
        x.due(x.get(1, 1), MAX);
    }

    /** "IllegalArgumentException if there is no such finding". */
    static void noSuchFinding() {
        Run x = Runs.flat(1);
        x.unchanged(Check.ARGUMENT, y -> y.get(0, 0));
        x.set(0, 4, 40);
        x.find(0, 4);
        for (int finding : new int[] {1, 2, 99, 100, -1, -2, MIN, MAX}) {
            x.unchanged(Check.ARGUMENT, y -> y.get(finding, 0));
        }
        x.due(x.get(0, 0), 40);
    }

    /** "no such finding": 99 is the last that can be, also when more were made. */
    static void findingNinetyNine() {
        Run x = Runs.flat(1);
        x.set(0, 4, 40);
        for (int i = 0; i < 99; i++) {
            x.find(0, 4);
        }
        x.due(x.get(98, 0), 40);
        x.due(x.get(99, 0), Check.ARGUMENT);
        x.find(0, 4);
        x.due(x.get(99, 0), 40);
        x.find(0, 4);
        x.due(x.get(100, 0), Check.ARGUMENT);
    }

    /** "IllegalStateException if it does not HOLD". */
    static void itDoesNotHold() {
        Run x = Runs.chain(2);
        x.set(0, 4, 40);
        x.find(1, 4);
        x.find(1, 5);
        x.set(0, 6, 60);
        x.unchanged(Check.STATE, y -> y.get(0, 1));
        x.unchanged(Check.STATE, y -> y.get(1, 1));
    }

    /** "or the object has another shape": a name more, another order, another prototype. */
    static void anotherShape() {
        Run x = Runs.flat(5);
        x.set(0, 4, 40);
        x.set(0, 5, 50);
        x.set(1, 4, 40);
        x.set(2, 5, 50);
        x.set(2, 4, 40);
        x.set(3, 4, 40);
        x.set(3, 5, 50);
        x.set(3, 6, 60);
        x.object(0);
        x.set(5, 4, 40);
        x.set(5, 5, 50);
        x.find(0, 4);
        for (int object = 1; object <= 5; object++) {
            int asked = object;
            x.unchanged(Check.STATE, y -> y.get(0, asked));
        }
        x.due(x.get(0, 0), 40);
        x.due(x.drop(3, 6), 1);
        x.due(x.get(0, 3), 40);
    }

    /** "or the object has another shape": one that is not there has not that of the finding. */
    static void noSuchObject() {
        Run x = Runs.flat(1);
        x.set(0, 4, 40);
        x.find(0, 4);
        for (int object : new int[] {1, 2, 59, 60, -1, -2, MIN, MAX}) {
            x.unchanged(Check.STATE, y -> y.get(0, object));
        }
    }

    /** "IndexOutOfBoundsException if it says nowhere": with none above, and with all above. */
    static void nowhere() {
        Run x = Runs.chain(60);
        x.find(0, 4);
        x.find(59, 4);
        x.unchanged(Check.INDEX, y -> y.get(0, 0));
        x.unchanged(Check.INDEX, y -> y.get(1, 59));
    }

    /** "if it says nowhere": told only after the shape and whether it HOLDS. */
    static void nowhereIsToldLast() {
        Run x = Runs.chain(2);
        x.find(1, 4);
        x.unchanged(Check.INDEX, y -> y.get(0, 1));
        x.unchanged(Check.STATE, y -> y.get(0, 0));
        x.unchanged(Check.STATE, y -> y.get(0, 2));
        x.set(0, 4, 40);
        x.unchanged(Check.STATE, y -> y.get(0, 1));
    }

    /** "no such finding": told first, whatever the object. */
    static void theFindingIsToldFirst() {
        Run x = Runs.flat(1);
        x.find(0, 4);
        x.unchanged(Check.ARGUMENT, y -> y.get(1, 1));
        x.unchanged(Check.ARGUMENT, y -> y.get(-1, -1));
        x.unchanged(Check.ARGUMENT, y -> y.get(MAX, MIN));
    }

    /** "where a finding says": when its number has gone to another one, that one says it. */
    static void theNumberHasGoneToAnother() {
        Run x = Runs.chain(2);
        x.set(0, 4, 40);
        x.set(0, 5, 50);
        for (int i = 0; i < 100; i++) {
            x.find(1, 4);
        }
        x.find(1, 5);
        x.due(x.get(0, 1), 50);
        x.due(x.get(1, 1), 40);
        x.find(0, 5);
        x.due(x.get(1, 1), Check.STATE);
        x.due(x.get(1, 0), 50);
    }

    /** "The value that is where a finding says": to get it changes nothing. */
    static void getChangesNothing() {
        Run x = Runs.chain(2);
        x.set(0, 4, 40);
        x.find(1, 4);
        x.unchanged(40, y -> y.get(0, 1));
        x.unchanged(1, y -> y.holds(0, 1));
    }

    /** "as long as nothing on the way has changed": drop at the HOLDER moves the others' places. */
    static void afterTheHoldersPlacesHaveMoved() {
        Run x = Runs.chain(2);
        x.set(0, 3, 30);
        x.set(0, 4, 40);
        x.find(1, 4);
        x.drop(0, 3);
        x.due(x.get(0, 1), Check.STATE);
        x.due(x.get(x.find(1, 4), 1), 40);
        x.due(x.finding(1, 4), 0);
        x.due(x.turn(1, NONE), 1);
        x.due(x.get(1, 1), Check.STATE);
    }
}
