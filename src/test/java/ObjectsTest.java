/** Promises 1 to 6: new objects, and what set, drop, turn and read do with them. */
public final class ObjectsTest {
    private static final int NONE = ShapeKeeper.NONE;

    public static void main(String[] args) {
        promise1();
        promise2();
        promise2Full();
        promise3();
        promise3Orders();
        promise4();
        promise5();
        promise5Loops();
        promise6();
        Check.end();
    }

    private static void promise1() {
        ShapeKeeper x = new ShapeKeeper();
        Check.due("1: NONE", ShapeKeeper.NONE, -1);
        Check.due("1: objects", x.count(0), 0);
        Check.due("1: shapes", x.count(1), 1);
        Check.due("1: findings made", x.count(2), 0);
        Check.due("1: findings that hold", x.count(3), 0);
        Check.due("1: shape 0, prototype", x.shape(0, 0), NONE);
        Check.due("1: shape 0, names", x.shape(0, 1), 0);
        Check.due("1: shape 0, objects", x.shape(0, 2), 0);
        Check.due("1: shape 0, origin", x.shape(0, 3), NONE);
        Check.due("1: look(0, 0)", x.look(0, 0), NONE);
        new ShapeKeeper().object(NONE);
        Check.due("1: objects, beside another keeper", x.count(0), 0);
    }

    private static void promise2() {
        ShapeKeeper x = new ShapeKeeper();
        Check.due("2: object(0) of none", Check.object(x, 0), Check.ARGUMENT);
        Check.due("2: object(NONE)", Check.object(x, NONE), 0);
        Check.due("2: object(0)", Check.object(x, 0), 1);
        Check.due("2: object(0) again", Check.object(x, 0), 2);
        Check.due("2: object(1)", Check.object(x, 1), 3);
        Check.due("2: object(-2)", Check.object(x, -2), Check.ARGUMENT);
        Check.due("2: object(4)", Check.object(x, 4), Check.ARGUMENT);
        Check.due("2: object(MAX)", Check.object(x, Integer.MAX_VALUE), Check.ARGUMENT);
        Check.due("2: object(MIN)", Check.object(x, Integer.MIN_VALUE), Check.ARGUMENT);
        Check.due("2: objects", x.count(0), 4);
        Check.due("2: shapes, one for each prototype", x.count(1), 3);
        Check.due("2: shape of 0", x.look(0, 0), 0);
        Check.due("2: shape of 1", x.look(1, 0), 1);
        Check.due("2: shape of 2", x.look(2, 0), 1);
        Check.due("2: shape of 3", x.look(3, 0), 2);
        Check.due("2: prototype of 3", x.look(3, 1), 1);
        Check.due("2: properties of 3", x.look(3, 2), 0);
        Check.due("2: changes of 3", x.look(3, 3), 0);
        Check.due("2: changes of 1, now a prototype", x.look(1, 3), 0);
    }

    private static void promise2Full() {
        ShapeKeeper x = new ShapeKeeper();
        for (int i = 0; i < 60; i++) {
            Check.due("2: object number", Check.object(x, i - 1), i);
        }
        Check.due("2: the 61st", Check.object(x, NONE), Check.STATE);
        Check.due("2: the 61st, of object 59", Check.object(x, 59), Check.STATE);
        Check.due("2: the 61st, of no prototype that is there", Check.object(x, 60), Check.ARGUMENT);
        Check.due("2: objects when full", x.count(0), 60);
        Check.due("2: shapes when full", x.count(1), 60);
        Check.due("2: above 59", x.look(59, 4), 59);
        Check.due("2: below 0", x.look(0, 5), 59);
    }

    private static void promise3() {
        ShapeKeeper x = new ShapeKeeper();
        Check.due("3: set of no object", x.set(0, 0, 1), false);
        x.object(NONE);
        x.object(0);
        Check.due("3: set(0, -1)", x.set(0, -1, 1), false);
        Check.due("3: set(0, 12)", x.set(0, 12, 1), false);
        Check.due("3: set(2, 0)", x.set(2, 0, 1), false);
        Check.due("3: set(-1, 0)", x.set(-1, 0, 1), false);
        Check.due("3: set(MIN, MAX)", x.set(Integer.MIN_VALUE, Integer.MAX_VALUE, 1), false);
        Check.due("3: changes after refusals", x.look(0, 3), 0);
        Check.due("3: shapes after refusals", x.count(1), 2);
        Check.due("3: set(0, 11)", x.set(0, 11, Integer.MIN_VALUE), true);
        Check.due("3: set(0, 0)", x.set(0, 0, Integer.MAX_VALUE), true);
        Check.due("3: read(0, 11)", Check.read(x, 0, 11), Integer.MIN_VALUE);
        Check.due("3: read(0, 0)", Check.read(x, 0, 0), Integer.MAX_VALUE);
        Check.due("3: changes", x.look(0, 3), 2);
        int shape = x.look(0, 0);
        Check.due("3: the name set first stands first", x.shape(shape, 4), 11);
        Check.due("3: the name set later stands behind", x.shape(shape, 5), 0);
        Check.due("3: set(0, 11) again", x.set(0, 11, 5), true);
        Check.due("3: value alone is no change", x.look(0, 3), 2);
        Check.due("3: value alone keeps the shape", x.look(0, 0), shape);
        Check.due("3: read(0, 11) again", Check.read(x, 0, 11), 5);
        Check.due("3: a name of one above is set in the object itself", x.set(1, 11, 7), true);
        Check.due("3: read(1, 11)", Check.read(x, 1, 11), 7);
        Check.due("3: read(0, 11) is as before", Check.read(x, 0, 11), 5);
        Check.due("3: properties of 1", x.look(1, 2), 1);
        for (int name = 0; name < 12; name++) {
            Check.due("3: set of all names", x.set(0, name, 100 + name), true);
        }
        Check.due("3: all names are there", x.look(0, 2), 12);
        for (int name = 0; name < 12; name++) {
            Check.due("3: read of all names", Check.read(x, 0, name), 100 + name);
        }
        Check.due("3: set(0, 12) when all are there", x.set(0, 12, 1), false);
    }

    /** The order of the names tells shapes apart, and so does each name on the way. */
    private static void promise3Orders() {
        ShapeKeeper x = new ShapeKeeper();
        int[][] orders = {{0, 1}, {1, 0}, {2, 1}, {0, 1}, {2, 1}};
        int[] shapes = {2, 4, 6, 2, 6};
        for (int i = 0; i < orders.length; i++) {
            x.object(NONE);
            x.set(i, orders[i][0], 10 * i);
            x.set(i, orders[i][1], 10 * i + 1);
            Check.due("3: shape of object " + i, x.look(i, 0), shapes[i]);
            Check.due("3: its first name", x.shape(shapes[i], 4), orders[i][0]);
            Check.due("3: its second name", x.shape(shapes[i], 5), orders[i][1]);
        }
        Check.due("3: seven shapes", x.count(1), 7);
        Check.due("3: two objects of [2 1]", x.shape(6, 2), 2);
        x.object(0);
        x.set(5, 0, 1);
        x.set(5, 1, 1);
        Check.due("3: the same names below a prototype are another shape", x.look(5, 0), 9);

        x = new ShapeKeeper();
        x.object(NONE);
        x.object(NONE);
        x.set(0, 2, 0);
        x.set(1, 0, 0);
        x.set(1, 1, 0);
        x.set(0, 1, 0);
        Check.due("3: [2 1] is not [0 1], which was there before it", x.look(0, 0), 4);
        Check.due("3: [2 1] came out of [2]", x.shape(4, 3), 1);
    }

    private static void promise4() {
        ShapeKeeper x = new ShapeKeeper();
        Check.due("4: drop of no object", x.drop(0, 0), false);
        x.object(NONE);
        x.object(0);
        for (int name = 0; name < 4; name++) {
            x.set(0, name, 10 + name);
        }
        Check.due("4: drop(1, 0): not its own", x.drop(1, 0), false);
        Check.due("4: drop(0, 4)", x.drop(0, 4), false);
        Check.due("4: drop(0, -1)", x.drop(0, -1), false);
        Check.due("4: drop(0, 12)", x.drop(0, 12), false);
        Check.due("4: drop(2, 0)", x.drop(2, 0), false);
        Check.due("4: drop(-1, 0)", x.drop(-1, 0), false);
        Check.due("4: changes after refusals", x.look(0, 3), 4);
        int shapes = x.count(1);
        int whole = x.look(0, 0);
        Check.due("4: drop(0, 1)", x.drop(0, 1), true);
        Check.due("4: changes", x.look(0, 3), 5);
        Check.due("4: properties", x.look(0, 2), 3);
        Check.due("4: read(0, 0)", Check.read(x, 0, 0), 10);
        Check.due("4: read(0, 1)", Check.read(x, 0, 1), Check.INDEX);
        Check.due("4: read(0, 2)", Check.read(x, 0, 2), 12);
        Check.due("4: read(0, 3)", Check.read(x, 0, 3), 13);
        Check.due("4: [0 2] and [0 2 3] are made", x.count(1), shapes + 2);
        Check.due("4: shape is [0 2 3]", x.look(0, 0), shapes + 1);
        Check.due("4: which came out of [0 2]", x.shape(shapes + 1, 3), shapes);
        Check.due("4: which came out of [0]", x.shape(shapes, 3), 2);
        Check.due("4: drop(0, 1) again", x.drop(0, 1), false);
        x.set(0, 1, 21);
        Check.due("4: a name set again stands last", x.shape(x.look(0, 0), 7), 1);
        Check.due("4: so it is another shape than before", x.look(0, 0) != whole, true);
        Check.due("4: drop of the last name", x.drop(0, 1), true);
        Check.due("4: leads back to the shape before", x.look(0, 0), shapes + 1);
        Check.due("4: drops", x.drop(0, 0) && x.drop(0, 2) && x.drop(0, 3), true);
        Check.due("4: shape without names", x.look(0, 0), 0);
        Check.due("4: properties, none left", x.look(0, 2), 0);
        Check.due("4: drop with none left", x.drop(0, 3), false);
    }

    private static void promise5() {
        ShapeKeeper x = new ShapeKeeper();
        Check.due("5: turn of no object", x.turn(0, NONE), false);
        x.object(NONE);
        x.object(NONE);
        x.set(0, 7, 70);
        x.set(0, 3, 30);
        Check.due("5: turn(0, 2)", x.turn(0, 2), false);
        Check.due("5: turn(0, -2)", x.turn(0, -2), false);
        Check.due("5: turn(2, 0)", x.turn(2, 0), false);
        Check.due("5: turn(-1, 0)", x.turn(-1, 0), false);
        Check.due("5: turn(MIN, MAX)", x.turn(Integer.MIN_VALUE, Integer.MAX_VALUE), false);
        Check.due("5: changes after refusals", x.look(0, 3), 2);
        Check.due("5: shapes after refusals", x.count(1), 3);
        Check.due("5: turn(0, 1)", x.turn(0, 1), true);
        Check.due("5: prototype", x.look(0, 1), 1);
        Check.due("5: changes", x.look(0, 3), 3);
        Check.due("5: changes of the prototype", x.look(1, 3), 0);
        Check.due("5: the EMPTY one, [7] and [7 3] are made", x.count(1), 6);
        Check.due("5: shape", x.look(0, 0), 5);
        Check.due("5: shape's prototype", x.shape(5, 0), 1);
        Check.due("5: shape's names", x.shape(5, 4) * 100 + x.shape(5, 5), 703);
        Check.due("5: shape's origin", x.shape(5, 3), 4);
        Check.due("5: EMPTY one's prototype", x.shape(3, 0), 1);
        Check.due("5: EMPTY one's origin", x.shape(3, 3), NONE);
        Check.due("5: EMPTY one's objects", x.shape(3, 2), 0);
        Check.due("5: read(0, 7)", Check.read(x, 0, 7), 70);
        Check.due("5: read(0, 3)", Check.read(x, 0, 3), 30);
        Check.due("5: turn to the one that it has", x.turn(0, 1), true);
        Check.due("5: that is a change", x.look(0, 3), 4);
        Check.due("5: but makes no shape", x.count(1), 6);
        Check.due("5: and keeps the shape", x.look(0, 0), 5);
        Check.due("5: turn(0, NONE)", x.turn(0, NONE), true);
        Check.due("5: the shape that it had first", x.look(0, 0), 2);
        Check.due("5: turn(0, NONE) again", x.turn(0, NONE), true);
        Check.due("5: changes at last", x.look(0, 3), 6);
    }

    private static void promise5Loops() {
        ShapeKeeper x = new ShapeKeeper();
        x.object(NONE);
        x.object(0);
        x.object(1);
        Check.due("5: turn to itself", x.turn(1, 1), false);
        Check.due("5: turn to the one below", x.turn(0, 1), false);
        Check.due("5: turn to one far below", x.turn(0, 2), false);
        Check.due("5: changes after refused loops", x.look(0, 3), 0);
        Check.due("5: shapes after refused loops", x.count(1), 3);
        Check.due("5: turn to one far above", x.turn(2, 0), true);
        Check.due("5: the middle one, now to the one that was below", x.turn(1, 2), true);
        Check.due("5: the other way is a loop now", x.turn(2, 1), false);
        Check.due("5: above 1", x.look(1, 4), 2);
    }

    private static void promise6() {
        ShapeKeeper x = new ShapeKeeper();
        Check.due("6: read(0, 0) of none", Check.read(x, 0, 0), Check.ARGUMENT);
        x.object(NONE);
        x.object(0);
        x.object(1);
        Check.due("6: read of nothing", Check.read(x, 2, 4), Check.INDEX);
        x.set(0, 4, 40);
        Check.due("6: of the farthest", Check.read(x, 2, 4), 40);
        x.set(1, 4, 41);
        Check.due("6: of the nearest", Check.read(x, 2, 4), 41);
        x.set(2, 4, 42);
        Check.due("6: its own", Check.read(x, 2, 4), 42);
        Check.due("6: never of one below", Check.read(x, 0, 4), 40);
        x.drop(2, 4);
        Check.due("6: of the nearest, after a drop", Check.read(x, 2, 4), 41);
        x.turn(2, NONE);
        Check.due("6: nowhere, after a turn", Check.read(x, 2, 4), Check.INDEX);
        Check.due("6: read(0, -1)", Check.read(x, 0, -1), Check.INDEX);
        Check.due("6: read(0, 12)", Check.read(x, 0, 12), Check.INDEX);
        Check.due("6: read(0, MAX)", Check.read(x, 0, Integer.MAX_VALUE), Check.INDEX);
        Check.due("6: read(3, 4)", Check.read(x, 3, 4), Check.ARGUMENT);
        Check.due("6: read(-1, 4)", Check.read(x, -1, 4), Check.ARGUMENT);
        Check.due("6: read(-1, -1)", Check.read(x, -1, -1), Check.ARGUMENT);
        Check.due("6: read(MIN, 0)", Check.read(x, Integer.MIN_VALUE, 0), Check.ARGUMENT);
    }
}
