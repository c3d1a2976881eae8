/** The boundary cases that the section 'Terms' names; above each case the words that name it. */
public final class TermsBoundsTest {
    private static final int NONE = Run.NONE;
    private static final int MIN = Integer.MIN_VALUE;
    private static final int MAX = Integer.MAX_VALUE;

    public static void main(String[] args) {
        Cases.runAll(TermsBoundsTest.class);
    }

    /** "OBJECTS 0, 1, .. (60 at most)". */
    static void sixtyObjectsAtMost() {
        Run x = new Run();
        for (int i = 0; i < 60; i++) {
            x.due(x.object(NONE), i);
        }
        x.due(x.count(0), 60);
        x.due(x.look(59, 2), 0);
        x.unchanged(Check.STATE, y -> y.object(NONE));
        x.due(x.count(0), 60);
        x.due(x.look(60, 2), NONE);
    }

    /** "PROPERTIES, names 0 .. 11": all twelve at once in one object, none beside them. */
    static void namesAreZeroToEleven() {
        Run x = Runs.flat(1);
        for (int name = 0; name <= 11; name++) {
            x.due(x.set(0, name, 100 + name), 1);
        }
        x.due(x.look(0, 2), 12);
        for (int name = 0; name <= 11; name++) {
            x.due(x.read(0, name), 100 + name);
            x.due(x.find(0, name), name);
            x.due(x.finding(name, 4), name);
        }
        for (int name : new int[] {-1, 12, 13, MIN, MAX}) {
            x.unchanged(0, y -> y.set(0, name, 1));
            x.unchanged(0, y -> y.drop(0, name));
            x.unchanged(NONE, y -> y.find(0, name));
            x.unchanged(Check.INDEX, y -> y.read(0, name));
        }
    }

    /** "in the order in which they were set first": a second set does not move a name. */
    static void aSecondSetKeepsTheOrder() {
        Run x = Runs.flat(1);
        x.set(0, 11, 1);
        x.set(0, 0, 2);
        x.set(0, 5, 3);
        x.set(0, 11, 4);
        x.set(0, 0, 5);
        x.shapes(x.look(0, 0), NONE, 3, 1, 2, 11, 0, 5, NONE);
    }

    /** "in the order in which they were set first": one that has gone comes anew, at the end. */
    static void aNameThatComesAgainStandsLast() {
        Run x = Runs.flat(1);
        x.set(0, 11, 1);
        x.set(0, 0, 2);
        x.set(0, 5, 3);
        x.drop(0, 11);
        x.set(0, 11, 4);
        // 1 [11], 2 [11 0], 3 [11 0 5], 4 [0], 5 [0 5], 6 [0 5 11]
        x.due(x.look(0, 0), 6);
        x.shapes(6, NONE, 3, 1, 5, 0, 5, 11, NONE);
        x.due(x.read(0, 0), 2);
        x.due(x.read(0, 5), 3);
        x.due(x.read(0, 11), 4);
    }

    /** "each with a value": any int, also those that look like NONE or no value at all. */
    static void anyValue() {
        int[] values = {MIN, -2, -1, 0, 1, MAX};
        Run x = Runs.chain(2);
        for (int i = 0; i < values.length; i++) {
            x.due(x.set(0, i, values[i]), 1);
            x.due(x.read(0, i), values[i]);
            x.due(x.read(1, i), values[i]);
        }
        for (int i = 0; i < values.length; i++) {
            x.due(x.get(x.find(0, i), 0), values[i]);
            x.due(x.get(x.find(1, i), 1), values[i]);
        }
    }

    /** "a PROTOTYPE (another object) or none": not the object itself. */
    static void anObjectIsNotItsOwnPrototype() {
        Run x = Runs.flat(2);
        x.unchanged(Check.ARGUMENT, y -> y.object(2));
        x.unchanged(0, y -> y.turn(0, 0));
        x.unchanged(0, y -> y.turn(1, 1));
        x.due(x.turn(0, 1), 1);
        x.due(x.turn(0, NONE), 1);
    }

    /** "never is an object above itself": the longest way round, through all 60. */
    static void neverAboveItself() {
        Run x = Runs.chain(60);
        for (int below : new int[] {1, 2, 31, 32, 58, 59}) {
            x.unchanged(0, y -> y.turn(0, below));
        }
        x.unchanged(0, y -> y.turn(58, 59));
        x.due(x.turn(59, NONE), 1);
        x.due(x.turn(0, 59), 1);
        x.unchanged(0, y -> y.turn(59, 58));
        x.unchanged(0, y -> y.turn(59, 0));
    }

    /** "ABOVE an object are its prototype, that one's, and so on": from none of them to 59. */
    static void aboveGoesToTheEnd() {
        Run x = Runs.chain(60);
        x.set(0, 4, 44);
        for (int i = 0; i < 60; i++) {
            x.due(x.look(i, 4), i);
            x.due(x.look(i, 5), 59 - i);
            x.due(x.read(i, 4), 44);
        }
    }

    /** "SHAPES .. (.. 0 is there at first: no prototype, no names)". */
    static void shapeZeroIsThereAtFirst() {
        Run x = new Run();
        x.shapes(0, NONE, 0, 0, NONE, NONE);
        x.shapes(1, NONE, NONE, NONE, NONE, NONE);
        x.object(NONE);
        x.due(x.look(0, 0), 0);
        x.due(x.count(1), 1);
    }

    /** "SHAPES 0, 1, .. (200 at most ..)": 199 is the last one. */
    static void twoHundredShapesAtMost() {
        Run x = Runs.withRoomFor(1);
        x.due(x.shape(199, 1), NONE);
        x.due(x.set(2, 3, 1), 1);
        x.due(x.look(2, 0), 199);
        x.shapes(199, NONE, 1, 1, 0, 3, NONE);
        x.due(x.count(1), 200);
        x.unchanged(0, y -> y.set(2, 4, 1));
        x.due(x.shape(200, 1), NONE);
        x.due(x.count(1), 200);
    }

    /** "the EMPTY one of a prototype (made when an object is to have it first)": by object. */
    static void theEmptyOneIsMadeByTheFirstObjectBelow() {
        Run x = Runs.flat(2);
        x.due(x.count(1), 1);
        x.object(1);
        x.due(x.count(1), 2);
        x.due(x.look(2, 0), 1);
        x.object(1);
        x.due(x.count(1), 2);
        x.due(x.look(3, 0), 1);
        x.object(0);
        x.due(x.look(4, 0), 2);
        x.shapes(1, 1, 0, 2, NONE, NONE);
        x.shapes(2, 0, 0, 1, NONE, NONE);
    }

    /** "the EMPTY one of a prototype (made when an object is to have it first)": by turn. */
    static void theEmptyOneIsMadeByTheFirstTurn() {
        Run x = Runs.flat(3);
        x.due(x.turn(0, 2), 1);
        x.due(x.look(0, 0), 1);
        x.due(x.turn(1, 2), 1);
        x.due(x.look(1, 0), 1);
        x.due(x.count(1), 2);
        x.shapes(1, 2, 0, 2, NONE, NONE);
    }

    /** "by one name more out of another shape (made when that is wanted first)". */
    static void oneNameMoreIsMadeOnce() {
        Run x = Runs.flat(3);
        x.set(0, 7, 1);
        x.due(x.look(0, 0), 1);
        x.set(1, 7, 2);
        x.due(x.look(1, 0), 1);
        x.due(x.count(1), 2);
        x.set(2, 8, 3);
        x.due(x.look(2, 0), 2);
        x.set(2, 7, 3);
        x.due(x.look(2, 0), 3);
        x.set(0, 8, 3);
        x.due(x.look(0, 0), 4);
        x.due(x.count(1), 5);
    }

    /** "An object's shape has its prototype and its names, in order": whichever call came last. */
    static void theShapeHasPrototypeAndNames() {
        Run x = Runs.flat(3);
        x.set(0, 6, 0);
        x.set(0, 2, 0);
        x.set(0, 9, 0);
        x.shapes(x.look(0, 0), NONE, 3, 1, 2, 6, 2, 9, NONE);
        x.turn(0, 2);
        // 4 is the EMPTY one of prototype 2, 5 [6], 6 [6 2], 7 [6 2 9]
        x.shapes(x.look(0, 0), 2, 3, 1, 6, 6, 2, 9, NONE);
        x.drop(0, 2);
        // 8 [6 9], out of 5
        x.shapes(x.look(0, 0), 2, 2, 1, 5, 6, 9, NONE);
        x.turn(0, 1);
        // 9 is the EMPTY one of prototype 1, 10 [6], 11 [6 9]
        x.shapes(x.look(0, 0), 1, 2, 1, 10, 6, 9, NONE);
        x.looks(0, 11, 1, 2, 6, 1, 0);
    }

    /** "set of a new name: that with the name more": out of its own shape, of its own prototype. */
    static void aNewNameGoesOnFromTheShapeThatItHas() {
        Run x = Runs.chain(2);
        x.set(0, 3, 0);
        x.set(1, 3, 0);
        // 1 is the EMPTY one of prototype 0; now [3] of none, [3] of prototype 0
        x.shapes(2, NONE, 1, 1, 0, 3, NONE);
        x.shapes(3, 0, 1, 1, 1, 3, NONE);
        x.set(1, 5, 0);
        x.due(x.look(1, 0), 4);
        x.shapes(4, 0, 2, 1, 3, 3, 5, NONE);
        x.due(x.set(1, 3, 7), 1);
        x.due(x.look(1, 0), 4);
        x.due(x.count(1), 5);
    }

    /** "two shapes may have the same names in another order". */
    static void theOrderTellsShapesApart() {
        Run x = Runs.flat(3);
        x.set(0, 1, 0);
        x.set(0, 2, 0);
        x.set(1, 2, 0);
        x.set(1, 1, 0);
        x.set(2, 2, 0);
        x.set(2, 1, 0);
        x.shapes(2, NONE, 2, 1, 1, 1, 2, NONE);
        x.shapes(4, NONE, 2, 2, 3, 2, 1, NONE);
        x.due(x.holds(x.find(0, 1), 1), 0);
        x.due(x.holds(x.find(1, 1), 2), 1);
    }

    /** "drop of a name ..: from the EMPTY one .. by its names (those that are left) one by one". */
    static void dropMakesEachShapeOnTheWay() {
        Run x = Runs.chain(2);
        for (int name = 0; name <= 3; name++) {
            x.set(1, name, 0);
        }
        x.due(x.count(1), 6);
        x.due(x.drop(1, 0), 1);
        // 1 is the EMPTY one, 2 to 5 the ways of set; now [1], [1 2], [1 2 3]
        x.due(x.count(1), 9);
        x.due(x.look(1, 0), 8);
        x.shapes(6, 0, 1, 0, 1, 1, NONE);
        x.shapes(7, 0, 2, 0, 6, 1, 2, NONE);
        x.shapes(8, 0, 3, 1, 7, 1, 2, 3, NONE);
    }

    /** "drop of a name ..": of the last one it comes back to where it was, of the only one to EMPTY. */
    static void dropFromTheEndMakesNoShape() {
        Run x = Runs.chain(2);
        for (int name = 0; name <= 11; name++) {
            x.set(1, name, 0);
        }
        for (int name = 11; name >= 0; name--) {
            x.due(x.drop(1, name), 1);
            x.due(x.look(1, 0), name + 1);
        }
        x.due(x.count(1), 14);
        x.shapes(x.look(1, 0), 0, 0, 1, NONE, NONE);
    }

    /** "turn of the prototype: from the EMPTY one of its prototype (the new one) by its names". */
    static void turnMakesEachShapeOnTheWay() {
        Run x = Runs.flat(2);
        x.set(0, 9, 0);
        x.set(0, 4, 0);
        x.due(x.turn(0, 1), 1);
        x.due(x.count(1), 6);
        x.due(x.look(0, 0), 5);
        x.shapes(3, 1, 0, 0, NONE, NONE);
        x.shapes(4, 1, 1, 0, 3, 9, NONE);
        x.shapes(5, 1, 2, 1, 4, 9, 4, NONE);
    }

    /** "(So it may be the one that it had ..)": a turn to the prototype that it has. */
    static void turnToTheSameKeepsTheShape() {
        Run x = Runs.chain(2);
        x.set(1, 9, 0);
        x.set(1, 4, 0);
        int shape = x.look(1, 0);
        x.due(x.turn(1, 0), 1);
        x.due(x.look(1, 0), shape);
        x.due(x.turn(0, NONE), 1);
        x.due(x.look(0, 0), 0);
        x.due(x.count(1), 4);
    }

    /** "CHANGED is an object, when a name of its own comes or goes". */
    static void aNameThatComesOrGoesIsAChange() {
        Run x = Runs.chain(2);
        x.due(x.look(1, 3), 0);
        x.set(1, 3, 1);
        x.due(x.look(1, 3), 1);
        x.drop(1, 3);
        x.due(x.look(1, 3), 2);
        x.due(x.look(0, 3), 0);
    }

    /** "or its prototype is turned (also to the one that it has)": also from none to none. */
    static void everyTurnIsAChange() {
        Run x = Runs.flat(2);
        x.turn(0, NONE);
        x.due(x.look(0, 3), 1);
        x.turn(0, 1);
        x.due(x.look(0, 3), 2);
        x.turn(0, 1);
        x.due(x.look(0, 3), 3);
        x.turn(0, NONE);
        x.due(x.look(0, 3), 4);
        x.due(x.look(1, 3), 0);
    }

    /** "a value alone is no change": not even the same value, nor a change of one above. */
    static void aValueAloneIsNoChange() {
        Run x = Runs.chain(2);
        x.set(0, 3, 1);
        x.set(1, 3, 1);
        int finding = x.find(1, 3);
        x.set(1, 3, 2);
        x.set(1, 3, 2);
        x.set(0, 3, 9);
        x.due(x.look(0, 3), 1);
        x.due(x.look(1, 3), 1);
        x.due(x.holds(finding, 1), 1);
        x.due(x.get(finding, 1), 2);
    }

    /** "FINDINGS 0, 1, .. (100 at most, ..)": 99 is the last number. */
    static void oneHundredFindingsAtMost() {
        Run x = Runs.flat(1);
        for (int i = 0; i < 100; i++) {
            x.due(x.finding(i, 0), NONE);
            x.due(x.find(0, i % 12), i);
        }
        x.due(x.finding(99, 1), 99 % 12);
        x.due(x.finding(100, 1), NONE);
        x.counts(1, 1, 100, 100);
    }

    /** "then the one that was made first gives its place and number to the new one". */
    static void theOldestFindingGivesWay() {
        Run x = Runs.flat(1);
        for (int i = 0; i < 100; i++) {
            x.find(0, 1);
        }
        x.due(x.find(0, 2), 0);
        x.findings(0, 0, 2, 0, NONE, NONE, 1);
        x.due(x.finding(1, 1), 1);
        x.due(x.finding(99, 1), 1);
        x.due(x.find(0, 3), 1);
        x.due(x.finding(0, 1), 2);
        x.due(x.finding(1, 1), 3);
        x.due(x.finding(2, 1), 1);
        x.counts(1, 1, 102, 100);
    }

    /** "then the one that was made first gives its place ..": round after round. */
    static void theNumbersGoRound() {
        Run x = Runs.flat(1);
        for (int i = 0; i < 508; i++) {
            x.due(x.find(0, i % 12), i % 100);
        }
        x.due(x.count(2), 508);
        x.due(x.finding(7, 1), 507 % 12);
        x.due(x.finding(8, 1), 408 % 12);
    }

    /** "What throws or is refused changes nothing": each call that can be refused. */
    static void whatIsRefusedChangesNothing() {
        Run x = Runs.chain(3);
        x.set(0, 4, 40);
        x.set(2, 6, 60);
        x.find(2, 4);
        x.find(2, 6);
        x.find(2, 5);
        x.unchanged(Check.ARGUMENT, y -> y.object(3));
        x.unchanged(0, y -> y.set(3, 0, 1));
        x.unchanged(0, y -> y.set(0, 12, 1));
        x.unchanged(0, y -> y.drop(3, 0));
        x.unchanged(0, y -> y.drop(2, 4));
        x.unchanged(0, y -> y.turn(3, 0));
        x.unchanged(0, y -> y.turn(2, 3));
        x.unchanged(0, y -> y.turn(0, 2));
        x.unchanged(Check.ARGUMENT, y -> y.read(3, 0));
        x.unchanged(Check.INDEX, y -> y.read(2, 0));
        x.unchanged(NONE, y -> y.find(3, 0));
        x.unchanged(NONE, y -> y.find(2, 12));
        x.unchanged(0, y -> y.holds(3, 2));
        x.unchanged(Check.ARGUMENT, y -> y.get(3, 2));
        x.unchanged(Check.STATE, y -> y.get(0, 1));
        x.unchanged(Check.INDEX, y -> y.get(2, 2));
        x.unchanged(NONE, y -> y.look(3, 0));
        x.unchanged(NONE, y -> y.shape(9, 0));
        x.unchanged(NONE, y -> y.finding(3, 0));
        x.unchanged(NONE, y -> y.count(4));
    }

    /** "a call that would make more than 200 shapes is refused as well, and makes none". */
    static void whatWantsTooManyShapesMakesNone() {
        Run x = Runs.withRoomFor(3);
        x.find(1, 5);
        x.find(1, 1);
        // EMPTY, [0], [0 1], [0 1 2] of prototype 2
        x.unchanged(0, y -> y.turn(0, 2));
        x.due(x.count(1), 197);
        // EMPTY, [5], [5 6] of prototype 2
        x.due(x.turn(1, 2), 1);
        x.due(x.count(1), 200);
        x.due(x.look(1, 0), 199);
    }

    /** "Of several exceptions the one told first is thrown": object. */
    static void objectTellsOfThePrototypeFirst() {
        Run x = Runs.flat(60);
        x.unchanged(Check.ARGUMENT, y -> y.object(60));
        x.unchanged(Check.ARGUMENT, y -> y.object(-2));
        x.unchanged(Check.STATE, y -> y.object(59));
        Run full = Runs.withRoomFor(0);
        int objects = full.count(0);
        full.unchanged(Check.ARGUMENT, y -> y.object(objects));
        full.unchanged(Check.STATE, y -> y.object(2));
    }

    /** "Of several exceptions the one told first is thrown": read. */
    static void readTellsOfTheObjectFirst() {
        Run x = Runs.flat(1);
        x.unchanged(Check.ARGUMENT, y -> y.read(1, 0));
        x.unchanged(Check.ARGUMENT, y -> y.read(1, 12));
        x.unchanged(Check.ARGUMENT, y -> y.read(-1, -1));
        x.unchanged(Check.INDEX, y -> y.read(0, 0));
    }

    /** "Of several exceptions the one told first is thrown": get. */
    static void getTellsOfTheFindingThenOfTheShapeThenOfNowhere() {
        Run x = Runs.chain(3);
        int nowhere = x.find(2, 0);
        x.unchanged(Check.ARGUMENT, y -> y.get(1, 0));
        x.unchanged(Check.ARGUMENT, y -> y.get(1, 3));
        x.unchanged(Check.STATE, y -> y.get(nowhere, 0));
        x.unchanged(Check.INDEX, y -> y.get(nowhere, 2));
        x.set(1, 5, 1);
        x.unchanged(Check.STATE, y -> y.get(nowhere, 2));
    }

    /** "`NONE = -1`: None." */
    static void noneIsMinusOne() {
        Check.due("NONE", ShapeKeeper.NONE, -1);
        Run x = new Run();
        x.due(x.object(-1), 0);
        x.due(x.look(0, 1), -1);
        x.due(x.turn(0, -1), 1);
    }

    /** "An object is used for at most 512 calls": the last of them is answered as the first one. */
    static void theLastOfTheCalls() {
        Run x = Runs.chain(2);
        for (int i = 0; i < 254; i++) {
            x.due(x.set(1, 0, i), 1);
            x.due(x.drop(1, 0), 1);
        }
        x.due(x.look(1, 3), 508);
        x.due(x.count(1), 3);
        Check.due("no call is left", x.isOver(), true);
    }
}
