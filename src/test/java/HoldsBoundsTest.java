/** The boundary cases of promise 8, holds, and of the term HOLDS; above each the words for it. */
public final class HoldsBoundsTest {
    private static final int NONE = Run.NONE;
    private static final int MIN = Integer.MIN_VALUE;
    private static final int MAX = Integer.MAX_VALUE;

    public static void main(String[] args) {
        Cases.runAll(HoldsBoundsTest.class);
    }

    /** "Whether a finding that is there ..": none is there, or not yet that one. */
    static void noSuchFinding() {
        Run x = Runs.flat(1);
        x.due(x.holds(0, 0), 0);
        x.find(0, 0);
        x.due(x.holds(0, 0), 1);
        for (int finding : new int[] {1, 2, 99, 100, -1, -2, MIN, MAX}) {
            x.unchanged(0, y -> y.holds(finding, 0));
        }
    }

    /** "a finding that is there": 99 is the last one that can be. */
    static void findingNinetyNine() {
        Run x = Runs.flat(1);
        for (int i = 0; i < 99; i++) {
            x.find(0, 0);
        }
        x.due(x.holds(98, 0), 1);
        x.due(x.holds(99, 0), 0);
        x.find(0, 0);
        x.due(x.holds(99, 0), 1);
        x.due(x.holds(100, 0), 0);
        x.find(0, 0);
        x.due(x.holds(100, 0), 0);
    }

    /** "and the object has its shape": there is no such object. */
    static void noSuchObject() {
        Run x = Runs.flat(2);
        x.find(0, 0);
        for (int object : new int[] {2, 3, 59, 60, -1, -2, MIN, MAX}) {
            x.unchanged(0, y -> y.holds(0, object));
        }
        x.due(x.holds(0, 1), 1);
    }

    /** "Whether a finding that is there .. and the object": neither is there. */
    static void neitherFindingNorObject() {
        Run x = new Run();
        x.due(x.holds(0, 0), 0);
        x.due(x.holds(-1, -1), 0);
        x.due(x.holds(MIN, MAX), 0);
        x.due(x.holds(MAX, MIN), 0);
    }

    /** "and the object has its shape": each one of the shape, and none beside them. */
    static void allOfTheShape() {
        Run x = Runs.chain(1);
        for (int i = 1; i < 60; i++) {
            x.object(0);
        }
        int finding = x.find(30, 4);
        x.due(x.holds(finding, 0), 0);
        for (int i = 1; i < 60; i++) {
            x.due(x.holds(finding, i), 1);
        }
        x.set(30, 7, 1);
        x.due(x.holds(finding, 30), 0);
        x.due(x.holds(finding, 31), 1);
    }

    /** "and the object has its shape": one that leaves it and comes back has it again. */
    static void theObjectLeavesAndComesBack() {
        Run x = Runs.chain(2);
        int finding = x.find(1, 4);
        x.set(1, 7, 1);
        x.due(x.holds(finding, 1), 0);
        x.due(x.finding(finding, 5), 1);
        x.drop(1, 7);
        x.due(x.holds(finding, 1), 1);
        x.turn(1, NONE);
        x.due(x.holds(finding, 1), 0);
        x.turn(1, 0);
        x.due(x.holds(finding, 1), 1);
    }

    /** "none, if it is in the object itself": all above it may change in all ways. */
    static void inItselfNothingBreaksIt() {
        Run x = Runs.chain(3);
        x.set(2, 4, 1);
        int finding = x.find(2, 4);
        x.set(1, 4, 1);
        x.drop(1, 4);
        x.turn(1, NONE);
        x.set(0, 4, 1);
        x.turn(1, 0);
        x.due(x.holds(finding, 2), 1);
        x.due(x.get(finding, 2), 1);
    }

    /** "from the prototype to the HOLDER": the prototype is the HOLDER. */
    static void thePrototypeIsTheHolder() {
        Run x = Runs.chain(3);
        x.set(1, 4, 1);
        int finding = x.find(2, 4);
        x.set(0, 5, 1);
        x.turn(0, NONE);
        x.drop(0, 5);
        x.due(x.holds(finding, 2), 1);
        x.set(1, 5, 1);
        x.due(x.holds(finding, 2), 0);
    }

    /** "from the prototype ..": a change of the prototype, which is not the HOLDER. */
    static void thePrototypeBreaksIt() {
        Run x = Runs.chain(4);
        x.set(0, 4, 1);
        int finding = x.find(3, 4);
        x.set(2, 5, 1);
        x.due(x.holds(finding, 3), 0);
    }

    /** "from the prototype to the HOLDER": a change of one between. */
    static void oneBetweenBreaksIt() {
        Run x = Runs.chain(4);
        x.set(0, 4, 1);
        int finding = x.find(3, 4);
        x.set(1, 5, 1);
        x.due(x.holds(finding, 3), 0);
    }

    /** "to the HOLDER": a name of it comes, a name of it goes, it is turned. */
    static void theHolderBreaksIt() {
        Run x = Runs.chain(4);
        x.set(1, 4, 1);
        int finding = x.find(3, 4);
        x.set(1, 5, 1);
        x.due(x.holds(finding, 3), 0);
        int second = x.find(3, 4);
        x.drop(1, 5);
        x.due(x.holds(second, 3), 0);
        int third = x.find(3, 4);
        x.turn(1, 0);
        x.due(x.holds(third, 3), 0);
        int fourth = x.find(3, 4);
        x.turn(1, NONE);
        x.due(x.holds(fourth, 3), 0);
        int fifth = x.find(3, 4);
        x.drop(1, 4);
        x.due(x.holds(fifth, 3), 0);
        x.due(x.count(3), 0);
    }

    /** "to the HOLDER": what is above it may change. */
    static void aboveTheHolderNothingBreaksIt() {
        Run x = Runs.chain(60);
        x.set(30, 4, 1);
        int finding = x.find(59, 4);
        for (int above = 0; above < 30; above++) {
            x.set(above, 4, 1);
        }
        x.due(x.holds(finding, 59), 1);
        x.set(30, 5, 1);
        x.due(x.holds(finding, 59), 0);
    }

    /** "from the prototype to the HOLDER": each single one on the longest way, and no other. */
    static void eachOneOnTheLongestWay() {
        for (int changed = 0; changed < 60; changed++) {
            Run x = Runs.chain(60);
            x.set(0, 4, 1);
            int finding = x.find(59, 4);
            x.set(changed, 5, 1);
            x.due(x.finding(finding, 5), changed == 59 ? 1 : 0);
        }
    }

    /** "(to the last one, if it is nowhere ..)": each single one on the longest way. */
    static void nowhereToTheLastOne() {
        for (int changed = 0; changed < 60; changed++) {
            Run x = Runs.chain(60);
            int finding = x.find(59, 4);
            x.turn(changed, changed - 1);
            x.due(x.finding(finding, 5), changed == 59 ? 1 : 0);
        }
    }

    /** "(to the last one, if it is nowhere ..)": none is above, so nothing breaks it. */
    static void nowhereAndNoneAbove() {
        Run x = Runs.flat(2);
        int finding = x.find(0, 4);
        x.set(1, 4, 1);
        x.set(0, 4, 1);
        x.due(x.holds(finding, 0), 0);
        x.due(x.finding(finding, 5), 1);
        x.drop(0, 4);
        x.turn(0, NONE);
        x.due(x.holds(finding, 0), 1);
    }

    /** "none of the objects above": one beside or below changes, or comes. */
    static void besideOrBelowNothingBreaksIt() {
        Run x = Runs.chain(3);
        x.object(0);
        x.object(2);
        int finding = x.find(2, 4);
        x.set(3, 4, 1);
        x.set(4, 4, 1);
        x.turn(4, 3);
        x.object(1);
        x.object(2);
        x.due(x.holds(finding, 2), 1);
    }

    /** "has CHANGED since it was made": what changed before does not count. */
    static void whatChangedBefore() {
        Run x = Runs.chain(2);
        x.set(0, 4, 1);
        x.turn(0, NONE);
        int finding = x.find(1, 4);
        x.due(x.holds(finding, 1), 1);
        x.set(0, 4, 2);
        x.due(x.holds(finding, 1), 1);
        x.due(x.get(finding, 1), 2);
    }

    /** "as long as": what is broken stays so when all is as it was; a new one holds. */
    static void whatIsBrokenStaysBroken() {
        Run x = Runs.chain(2);
        x.set(0, 4, 1);
        int finding = x.find(1, 4);
        x.set(0, 5, 1);
        x.drop(0, 5);
        x.due(x.holds(finding, 1), 0);
        int second = x.find(1, 4);
        x.due(second, 1);
        x.due(x.holds(second, 1), 1);
        x.due(x.holds(finding, 1), 0);
    }

    /** "What throws or is refused changes nothing": it breaks no finding. */
    static void whatIsRefusedBreaksNothing() {
        Run x = Runs.withRoomFor(0);
        int finding = x.find(1, 4);
        x.set(0, 3, 1);
        x.drop(0, 0);
        x.drop(0, 7);
        x.turn(0, 2);
        x.turn(0, 1);
        x.turn(0, 0);
        x.set(0, 12, 1);
        x.due(x.holds(finding, 1), 1);
        x.drop(0, 2);
        x.due(x.holds(finding, 1), 0);
    }
}
