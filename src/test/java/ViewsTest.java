/** Promises 10, 11 and 13: what look, shape and count tell. */
public final class ViewsTest {
    private static final int NONE = ShapeKeeper.NONE;

    public static void main(String[] args) {
        promise10();
        promise11();
        promise13();
        Check.end();
    }

    private static void promise10() {
        ShapeKeeper x = new ShapeKeeper();
        Check.due("10: look of no object", x.look(0, 0), NONE);
        x.object(NONE);
        x.object(0);
        x.object(1);
        x.object(0);
        x.object(2);
        x.set(1, 3, 1);
        x.set(1, 4, 1);
        x.set(1, 4, 2);
        x.drop(1, 3);
        // shapes 0 .. 3 are EMPTY ones; 4 is [3], 5 [3 4], 6 [4], all of prototype 0
        expect(x, 0, 0, NONE, 0, 0, 0, 4);
        expect(x, 1, 6, 0, 1, 3, 1, 2);
        expect(x, 2, 2, 1, 0, 0, 2, 1);
        expect(x, 3, 1, 0, 0, 0, 1, 0);
        expect(x, 4, 3, 2, 0, 0, 3, 0);
        x.turn(1, 3);
        expect(x, 0, 0, NONE, 0, 0, 0, 4);
        expect(x, 1, 8, 3, 1, 4, 2, 2);
        expect(x, 3, 1, 0, 0, 0, 1, 3);
        expect(x, 4, 3, 2, 0, 0, 4, 0);
        Check.due("10: object 5", x.look(5, 0), NONE);
        Check.due("10: object -1", x.look(-1, 0), NONE);
        Check.due("10: object MAX", x.look(Integer.MAX_VALUE, 0), NONE);
        Check.due("10: what -1", x.look(0, -1), NONE);
        Check.due("10: what 6", x.look(0, 6), NONE);
        Check.due("10: what MIN", x.look(0, Integer.MIN_VALUE), NONE);
    }

    private static void expect(ShapeKeeper x, int object, int... answers) {
        for (int what = 0; what < answers.length; what++) {
            Check.due("10: look(" + object + ", " + what + ")", x.look(object, what), answers[what]);
        }
    }

    private static void promise11() {
        ShapeKeeper x = new ShapeKeeper();
        Check.due("11: shape 1 at first", x.shape(1, 1), NONE);
        x.object(NONE);
        x.object(NONE);
        x.object(0);
        for (int name = 11; name >= 0; name--) {
            x.set(2, name, 0);
        }
        x.set(0, 2, 0);
        x.set(1, 2, 0);
        x.set(1, 5, 0);
        Check.due("11: objects of shape 0", x.shape(0, 2), 0);
        Check.due("11: prototype of shape 1", x.shape(1, 0), 0);
        Check.due("11: objects of shape 1", x.shape(1, 2), 0);
        Check.due("11: origin of shape 1", x.shape(1, 3), NONE);
        Check.due("11: name 0 of shape 1", x.shape(1, 4), NONE);
        Check.due("11: names of shape 13", x.shape(13, 1), 12);
        Check.due("11: prototype of shape 13", x.shape(13, 0), 0);
        Check.due("11: objects of shape 13", x.shape(13, 2), 1);
        Check.due("11: origin of shape 13", x.shape(13, 3), 12);
        Check.due("11: origin of shape 2", x.shape(2, 3), 1);
        for (int i = 0; i < 12; i++) {
            Check.due("11: name of shape 13", x.shape(13, 4 + i), 11 - i);
        }
        Check.due("11: name 12 of shape 13", x.shape(13, 16), NONE);
        Check.due("11: prototype of shape 14", x.shape(14, 0), NONE);
        Check.due("11: origin of shape 14", x.shape(14, 3), 0);
        Check.due("11: name 0 of shape 14", x.shape(14, 4), 2);
        Check.due("11: name 1 of shape 14", x.shape(14, 5), NONE);
        Check.due("11: objects of shape 14", x.shape(14, 2), 1);
        Check.due("11: names of shape 15", x.shape(15, 4) * 100 + x.shape(15, 5), 205);
        Check.due("11: shape 16", x.shape(16, 1), NONE);
        Check.due("11: shape -1", x.shape(-1, 1), NONE);
        Check.due("11: shape 200", x.shape(200, 1), NONE);
        Check.due("11: shape MIN", x.shape(Integer.MIN_VALUE, 1), NONE);
        Check.due("11: what -1", x.shape(13, -1), NONE);
        Check.due("11: what MIN", x.shape(13, Integer.MIN_VALUE), NONE);
        Check.due("11: what MAX", x.shape(13, Integer.MAX_VALUE), NONE);
        x.drop(1, 5);
        Check.due("11: two objects of shape 14", x.shape(14, 2), 2);
        Check.due("11: shape 15 is there, of no object", x.shape(15, 2), 0);
    }

    private static void promise13() {
        ShapeKeeper x = new ShapeKeeper();
        x.object(NONE);
        x.object(0);
        x.set(0, 1, 1);
        x.find(1, 1);
        x.find(1, 2);
        x.find(0, 1);
        Check.due("13: objects", x.count(0), 2);
        Check.due("13: shapes", x.count(1), 3);
        Check.due("13: findings made", x.count(2), 3);
        Check.due("13: findings that hold", x.count(3), 3);
        x.drop(0, 1);
        Check.due("13: findings made, after a change", x.count(2), 3);
        Check.due("13: findings that hold, after a change", x.count(3), 1);
        Check.due("13: what -1", x.count(-1), NONE);
        Check.due("13: what 4", x.count(4), NONE);
        Check.due("13: what MIN", x.count(Integer.MIN_VALUE), NONE);
        Check.due("13: what MAX", x.count(Integer.MAX_VALUE), NONE);
    }
}
