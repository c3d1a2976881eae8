/** Runs that lead to states which several tests begin with. */
final class Runs {
    private static final int NONE = Run.NONE;

    private Runs() {}

    /** Objects 0, 1, .. each above the next one. */
    static Run chain(int objects) {
        Run x = new Run();
        for (int i = 0; i < objects; i++) {
            x.object(i - 1);
        }
        return x;
    }

    /** Objects 0, 1, .. all without a prototype. */
    static Run flat(int objects) {
        Run x = new Run();
        for (int i = 0; i < objects; i++) {
            x.object(NONE);
        }
        return x;
    }

    /**
     * Room for just so many more shapes. Object 0 has the names 0 1 2 with the values 10 11 12, object
     * 1 below it the names 5 6 with 15 16, objects 2 and 4 nothing; no object is below 1, 2, 3 or 4.
     */
    static Run withRoomFor(int left) {
        Run x = new Run();
        x.object(NONE);
        x.object(0);
        x.object(NONE);
        x.object(NONE);
        x.object(NONE);
        x.set(0, 0, 10);
        x.set(0, 1, 11);
        x.set(0, 2, 12);
        x.set(1, 5, 15);
        x.set(1, 6, 16);
        fill(x, 3, 200 - left);
        return x;
    }

    /** Turning an object with twelve names to a prototype of its own makes thirteen shapes. */
    private static void fill(Run x, int object, int shapes) {
        for (int name = 11; name >= 0; name--) {
            x.set(object, name, 0);
        }
        while (x.count(1) + 13 <= shapes) {
            x.turn(object, x.object(NONE));
        }
        int last = x.count(1) < shapes ? x.object(x.object(NONE)) : NONE;
        for (int name = 0; x.count(1) < shapes; name++) {
            x.set(last, name, 0);
        }
        Check.due("shapes that are there", x.count(1), shapes);
    }
}
