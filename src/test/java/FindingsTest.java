/** Promises 7, 8, 9 and 12: findings, when they hold, and what they tell. */
public final class FindingsTest {
    private static final int NONE = ShapeKeeper.NONE;

    public static void main(String[] args) {
        promise7();
        promise7Ring();
        promise8();
        promise8Way();
        promise8Nowhere();
        promise8Refused();
        promise9();
        promise12();
        Check.end();
    }

    /** Objects 0, 1, .. each above the next one. */
    private static ShapeKeeper chain(int objects) {
        ShapeKeeper x = new ShapeKeeper();
        for (int i = 0; i < objects; i++) {
            x.object(i - 1);
        }
        return x;
    }

    private static void promise7() {
        ShapeKeeper x = new ShapeKeeper();
        Check.due("7: find of no object", x.find(0, 0), NONE);
        x.object(NONE);
        Check.due("7: find(0, -1)", x.find(0, -1), NONE);
        Check.due("7: find(0, 12)", x.find(0, 12), NONE);
        Check.due("7: find(1, 0)", x.find(1, 0), NONE);
        Check.due("7: find(-1, 0)", x.find(-1, 0), NONE);
        Check.due("7: find(MIN, MAX)", x.find(Integer.MIN_VALUE, Integer.MAX_VALUE), NONE);
        Check.due("7: none was made", x.count(2), 0);
        Check.due("7: find(0, 0)", x.find(0, 0), 0);
        Check.due("7: find(0, 11)", x.find(0, 11), 1);
        Check.due("7: the same again is a new one", x.find(0, 0), 2);
        Check.due("7: three were made", x.count(2), 3);
        Check.due("7: a finding is no change", x.look(0, 3), 0);
        Check.due("7: a finding makes no shape", x.count(1), 1);
    }

    private static void promise7Ring() {
        ShapeKeeper x = chain(2);
        x.set(0, 5, 50);
        for (int i = 0; i < 100; i++) {
            Check.due("7: number", x.find(1, i % 12), i);
        }
        Check.due("7: 99 is there", x.finding(99, 1), 3);
        Check.due("7: 100 is not there", x.finding(100, 1), NONE);
        x.set(0, 6, 60);
        Check.due("7: all are broken", x.count(3), 0);
        Check.due("7: the one made first gives its number", x.find(1, 6), 0);
        Check.due("7: the new one holds", x.holds(0, 1), true);
        Check.due("7: it is of the new name", x.finding(0, 1), 6);
        Check.due("7: and has the new place", x.finding(0, 4), 1);
        Check.due("7: the next one stays as it was", x.finding(1, 1), 1);
        Check.due("7: the next one is still broken", x.holds(1, 1), false);
        Check.due("7: then the next gives its number", x.find(1, 5), 1);
        Check.due("7: 102 were made", x.count(2), 102);
        Check.due("7: two hold", x.count(3), 2);
        for (int i = 2; i < 100; i++) {
            Check.due("7: number, second round", x.find(0, 5), i);
        }
        Check.due("7: number, third round", x.find(0, 7), 0);
        Check.due("7: 201 were made", x.count(2), 201);
        Check.due("7: a hundred hold", x.count(3), 100);
        Check.due("7: 100 is never there", x.holds(100, 0), false);
    }

    private static void promise8() {
        ShapeKeeper x = new ShapeKeeper();
        Check.due("8: holds of nothing", x.holds(0, 0), false);
        x.object(NONE);
        Check.due("8: holds of no finding", x.holds(0, 0), false);
        x.object(0);
        x.object(0);
        x.set(1, 2, 1);
        int own = x.find(1, 2);
        Check.due("8: of the object's shape", x.holds(own, 1), true);
        Check.due("8: of another shape", x.holds(own, 2), false);
        Check.due("8: of no object", x.holds(own, 3), false);
        Check.due("8: of object -1", x.holds(own, -1), false);
        Check.due("8: finding -1", x.holds(-1, 1), false);
        Check.due("8: finding 1", x.holds(1, 1), false);
        Check.due("8: MIN and MAX", x.holds(Integer.MIN_VALUE, Integer.MAX_VALUE), false);
        x.set(2, 2, 5);
        Check.due("8: another object has come to the shape", x.holds(own, 2), true);
        x.set(0, 2, 3);
        x.turn(0, NONE);
        Check.due("8: in itself: changes above are nothing to it", x.holds(own, 1), true);
        x.set(1, 3, 1);
        Check.due("8: the object has left the shape", x.holds(own, 1), false);
        Check.due("8: for the other one it still holds", x.holds(own, 2), true);
        x.drop(1, 3);
        Check.due("8: the object has come back", x.holds(own, 1), true);
    }

    private static void promise8Way() {
        ShapeKeeper x = chain(4);
        x.set(1, 0, 9);
        int f = x.find(3, 0);
        x.set(0, 1, 1);
        x.turn(0, NONE);
        x.drop(0, 1);
        Check.due("8: changes above the HOLDER are nothing to it", x.holds(f, 3), true);
        x.set(1, 0, 8);
        Check.due("8: a value alone is nothing to it", x.holds(f, 3), true);
        x.set(3, 0, 8);
        Check.due("8: the object has its own now", x.holds(f, 3), false);
        Check.due("8: but the finding HOLDS", x.finding(f, 5), 1);
        x.drop(3, 0);
        Check.due("8: it has the shape again", x.holds(f, 3), true);
        x.set(2, 5, 0);
        Check.due("8: one between has changed", x.holds(f, 3), false);
        x.drop(2, 5);
        Check.due("8: what broke never mends", x.holds(f, 3), false);
        f = x.find(3, 0);
        x.set(1, 5, 0);
        Check.due("8: the HOLDER got a name", x.holds(f, 3), false);
        f = x.find(3, 0);
        x.drop(1, 5);
        Check.due("8: the HOLDER lost a name", x.holds(f, 3), false);
        f = x.find(3, 0);
        x.turn(1, 0);
        Check.due("8: the HOLDER was turned to the one that it has", x.holds(f, 3), false);
        f = x.find(3, 0);
        x.turn(2, 1);
        Check.due("8: one between was turned to the one that it has", x.holds(f, 3), false);
        f = x.find(3, 0);
        x.turn(3, 2);
        Check.due("8: the object itself was turned to the one that it has", x.holds(f, 3), true);
        x.turn(3, 1);
        Check.due("8: the object was turned to another", x.holds(f, 3), false);
        x.turn(3, 2);
        Check.due("8: and back", x.holds(f, 3), true);
    }

    private static void promise8Nowhere() {
        ShapeKeeper x = chain(60);
        int far = x.find(59, 0);
        int root = x.find(0, 0);
        Check.due("8: nowhere", x.finding(far, 2), 0);
        Check.due("8: holds for the lowest", x.holds(far, 59), true);
        x.set(59, 1, 1);
        x.drop(59, 1);
        Check.due("8: the object itself may change", x.holds(far, 59), true);
        x.set(0, 1, 1);
        Check.due("8: the last one above has changed", x.holds(far, 59), false);
        x.drop(0, 1);
        Check.due("8: with none above nothing breaks it", x.holds(root, 0), true);
        far = x.find(59, 0);
        x.turn(58, 57);
        Check.due("8: the prototype has changed", x.holds(far, 59), false);
        far = x.find(59, 0);
        x.set(32, 1, 1);
        Check.due("8: object 32 has changed", x.holds(far, 59), false);
        far = x.find(20, 0);
        x.set(52, 1, 1);
        Check.due("8: 52 is not above 20", x.holds(far, 20), true);
        x.set(10, 1, 1);
        Check.due("8: 10 is above 20", x.holds(far, 20), false);
    }

    private static void promise8Refused() {
        ShapeKeeper x = chain(3);
        x.set(0, 0, 1);
        int f = x.find(2, 0);
        x.set(1, 12, 1);
        x.drop(1, 0);
        x.turn(1, 2);
        x.turn(1, 1);
        x.turn(0, 9);
        Check.due("8: refused calls break nothing", x.holds(f, 2), true);
        Check.due("8: refused calls are no changes", x.look(1, 3), 0);
    }

    private static void promise9() {
        ShapeKeeper x = chain(3);
        Check.due("9: get of no finding", Check.get(x, 0, 2), Check.ARGUMENT);
        x.set(0, 8, 1);
        x.set(0, 4, 40);
        x.set(2, 9, 90);
        x.set(2, 6, 60);
        int own = x.find(2, 6);
        int above = x.find(2, 4);
        int nowhere = x.find(2, 5);
        Check.due("9: in itself", Check.get(x, own, 2), 60);
        Check.due("9: in one above", Check.get(x, above, 2), 40);
        Check.due("9: nowhere", Check.get(x, nowhere, 2), Check.INDEX);
        x.set(0, 4, 41);
        x.set(2, 6, 61);
        Check.due("9: in itself, another value", Check.get(x, own, 2), 61);
        Check.due("9: in one above, another value", Check.get(x, above, 2), 41);
        Check.due("9: finding -1", Check.get(x, -1, 2), Check.ARGUMENT);
        Check.due("9: finding 3", Check.get(x, 3, 2), Check.ARGUMENT);
        Check.due("9: finding MAX, object MIN",
                Check.get(x, Integer.MAX_VALUE, Integer.MIN_VALUE), Check.ARGUMENT);
        Check.due("9: another shape", Check.get(x, own, 1), Check.STATE);
        Check.due("9: nowhere, another shape", Check.get(x, nowhere, 1), Check.STATE);
        Check.due("9: no such object", Check.get(x, own, 3), Check.STATE);
        Check.due("9: object -1", Check.get(x, own, -1), Check.STATE);
        x.object(1);
        x.set(3, 9, 93);
        x.set(3, 6, 63);
        Check.due("9: in itself, another object", Check.get(x, own, 3), 63);
        Check.due("9: in one above, another object", Check.get(x, above, 3), 41);
        x.drop(0, 8);
        Check.due("9: in itself, after a change above", Check.get(x, own, 2), 61);
        Check.due("9: in one above, after a change there", Check.get(x, above, 2), Check.STATE);
        Check.due("9: nowhere, after a change above", Check.get(x, nowhere, 2), Check.STATE);
        Check.due("9: found anew", Check.get(x, x.find(2, 4), 2), 41);
    }

    private static void promise12() {
        ShapeKeeper x = chain(3);
        Check.due("12: of no finding", x.finding(0, 0), NONE);
        x.set(0, 8, 1);
        x.set(0, 4, 40);
        x.set(2, 9, 90);
        x.set(2, 6, 60);
        int shape = x.look(2, 0);
        x.find(2, 6);
        x.find(2, 4);
        x.find(2, 5);
        expect(x, 0, shape, 6, 1, NONE, 1, 1);
        expect(x, 1, shape, 4, 2, 0, 1, 1);
        expect(x, 2, shape, 5, 0, NONE, NONE, 1);
        x.set(1, 4, 0);
        expect(x, 0, shape, 6, 1, NONE, 1, 1);
        expect(x, 1, shape, 4, 2, 0, 1, 0);
        expect(x, 2, shape, 5, 0, NONE, NONE, 0);
        x.find(2, 4);
        expect(x, 3, shape, 4, 2, 1, 0, 1);
        Check.due("12: finding 4", x.finding(4, 0), NONE);
        Check.due("12: finding -1", x.finding(-1, 0), NONE);
        Check.due("12: finding MIN", x.finding(Integer.MIN_VALUE, 0), NONE);
        Check.due("12: what -1", x.finding(0, -1), NONE);
        Check.due("12: what 6", x.finding(0, 6), NONE);
        Check.due("12: what MAX", x.finding(0, Integer.MAX_VALUE), NONE);
    }

    private static void expect(ShapeKeeper x, int finding, int... answers) {
        for (int what = 0; what < answers.length; what++) {
            Check.due("12: finding(" + finding + ", " + what + ")",
                    x.finding(finding, what), answers[what]);
        }
    }
}
