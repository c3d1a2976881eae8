/** Promises 2 to 5 where there is no room for shapes: refused, and nothing has changed. */
public final class ShapesFullTest {
    private static final int NONE = ShapeKeeper.NONE;

    public static void main(String[] args) {
        full();
        oneLeft();
        twoLeft();
        Check.end();
    }

    /**
     * Objects 0 (names 0 1 2), 1 (names 5 6, below 0), 2 and 3 (with no EMPTY one of theirs), and so
     * many shapes that just the wanted number may still be made; in far fewer than 512 calls.
     */
    private static ShapeKeeper withRoomFor(int left) {
        ShapeKeeper x = new ShapeKeeper();
        x.object(NONE);
        x.object(0);
        x.object(NONE);
        x.object(NONE);
        x.set(0, 0, 10);
        x.set(0, 1, 11);
        x.set(0, 2, 12);
        x.set(1, 5, 15);
        x.set(1, 6, 16);
        fill(x, 3, 200 - left);
        return x;
    }

    /** Turning an object with twelve names to a prototype of its own makes thirteen shapes. */
    private static void fill(ShapeKeeper x, int object, int shapes) {
        for (int name = 11; name >= 0; name--) {
            x.set(object, name, 0);
        }
        while (x.count(1) + 13 <= shapes) {
            x.turn(object, x.object(NONE));
        }
        int last = x.count(1) < shapes ? x.object(x.object(NONE)) : NONE;
        for (int name = 0; x.count(1) < shapes; name++) {
            x.set(last, name, 0);
        }
        Check.due("filled with shapes", x.count(1), shapes);
    }

    private static void full() {
        ShapeKeeper x = withRoomFor(0);
        int objects = x.count(0);
        int own = x.find(0, 2);
        int above = x.find(1, 2);
        int changes = x.look(0, 3);
        int shape = x.look(0, 0);
        Check.due("2: object(2), no room for its EMPTY one", Check.object(x, 2), Check.STATE);
        Check.due("2: object of no prototype that is there", Check.object(x, objects), Check.ARGUMENT);
        Check.due("2: objects", x.count(0), objects);
        Check.due("3: set(0, 3), no room", x.set(0, 3, 1), false);
        Check.due("4: drop(0, 1), no room for [0 2]", x.drop(0, 1), false);
        Check.due("5: turn(0, 2), no room for any", x.turn(0, 2), false);
        Check.due("5: turn(2, 3), no room for the EMPTY one", x.turn(2, 3), false);
        Check.due("no shape was made", x.count(1), 200);
        Check.due("no change was made", x.look(0, 3), changes);
        Check.due("the shape is the same", x.look(0, 0), shape);
        Check.due("the prototype is the same", x.look(0, 1), NONE);
        Check.due("the prototype of 2 is the same", x.look(2, 1), NONE);
        Check.due("the values are the same", Check.read(x, 0, 1), 11);
        Check.due("the last value is the same", Check.read(x, 0, 2), 12);
        Check.due("the finding holds", x.holds(own, 0), true);
        Check.due("the finding below holds", x.holds(above, 1), true);
        Check.due("3: set of a value needs no room", x.set(0, 1, 21), true);
        Check.due("4: drop of the last name needs no room", x.drop(0, 2), true);
        Check.due("3: set to a shape that is there", x.set(0, 2, 22), true);
        Check.due("4: the shape is the same again", x.look(0, 0), shape);
        Check.due("2: object(0) needs no room", Check.object(x, 0), objects);
        Check.due("2: object(NONE) needs no room", Check.object(x, NONE), objects + 1);
        Check.due("5: turn(2, 0) needs no room", x.turn(2, 0), true);
        Check.due("5: turn(0, NONE) needs no room", x.turn(0, NONE), true);
        Check.due("still 200 shapes", x.count(1), 200);
        Check.due("shape 199 is there", x.shape(199, 1) >= 1, true);
        Check.due("shape 200 is not there", x.shape(200, 0), NONE);
    }

    private static void oneLeft() {
        ShapeKeeper x = withRoomFor(1);
        Check.due("4: drop(0, 0) wants [1] and [1 2]", x.drop(0, 0), false);
        Check.due("5: turn(1, 2) wants three", x.turn(1, 2), false);
        Check.due("5: turn(0, 3) wants four", x.turn(0, 3), false);
        Check.due("none was made", x.count(1), 199);
        Check.due("no change", x.look(1, 3), 2);
        Check.due("4: drop(0, 1) wants [0 2] alone", x.drop(0, 1), true);
        Check.due("4: which is 199", x.look(0, 0), 199);
        Check.due("4: read(0, 2)", Check.read(x, 0, 2), 12);
        Check.due("no room is left", x.count(1), 200);

        x = withRoomFor(1);
        int made = x.count(0);
        Check.due("2: object(2) wants the EMPTY one alone", Check.object(x, 2), made);
        Check.due("2: which is 199", x.look(made, 0), 199);
        Check.due("2: object(2) again", Check.object(x, 2), made + 1);
        Check.due("3: set of a name, no room", x.set(made, 0, 1), false);
        Check.due("3: nothing was set", x.look(made, 2), 0);

        x = withRoomFor(1);
        Check.due("3: set(0, 3)", x.set(0, 3, 1), true);
        Check.due("3: set(0, 4)", x.set(0, 4, 1), false);
        Check.due("3: read(0, 4)", Check.read(x, 0, 4), Check.INDEX);
        Check.due("3: changes", x.look(0, 3), 4);
    }

    private static void twoLeft() {
        ShapeKeeper x = withRoomFor(2);
        Check.due("5: turn(1, 2) wants three", x.turn(1, 2), false);
        Check.due("4: drop(0, 0) wants two", x.drop(0, 0), true);
        Check.due("4: shape 199", x.look(0, 0), 199);
        Check.due("4: origin", x.shape(199, 3), 198);
        x = withRoomFor(3);
        Check.due("5: turn(0, 2) wants four", x.turn(0, 2), false);
        Check.due("5: turn(1, 2) wants three, and has them", x.turn(1, 2), true);
        Check.due("5: shape 199 of prototype 2", x.shape(x.look(1, 0), 0), 2);
        Check.due("5: shapes", x.count(1), 200);
    }
}
