import java.util.ArrayList;
import java.util.List;
import java.util.function.ToIntFunction;

/**
 * A run of calls on a new ShapeKeeper: every answer is an int (true is 1, an exception its code of
 * Check), and the run can be made a second time, so that its state can be looked at within the 512
 * calls that are promised.
 */
final class Run {
    static final int NONE = ShapeKeeper.NONE;
    static final int MOST_CALLS = 512;

    private final ShapeKeeper keeper = new ShapeKeeper();
    private final List<ToIntFunction<ShapeKeeper>> calls = new ArrayList<>();
    private String last = "new ShapeKeeper()";

    int object(int prototype) {
        return call("object(" + prototype + ")", x -> Check.object(x, prototype));
    }

    int set(int object, int name, int value) {
        return call("set(" + object + ", " + name + ", " + value + ")",
                x -> x.set(object, name, value) ? 1 : 0);
    }

    int drop(int object, int name) {
        return call("drop(" + object + ", " + name + ")", x -> x.drop(object, name) ? 1 : 0);
    }

    int turn(int object, int prototype) {
        return call("turn(" + object + ", " + prototype + ")",
                x -> x.turn(object, prototype) ? 1 : 0);
    }

    int read(int object, int name) {
        return call("read(" + object + ", " + name + ")", x -> Check.read(x, object, name));
    }

    int find(int object, int name) {
        return call("find(" + object + ", " + name + ")", x -> x.find(object, name));
    }

    int holds(int finding, int object) {
        return call("holds(" + finding + ", " + object + ")",
                x -> x.holds(finding, object) ? 1 : 0);
    }

    int get(int finding, int object) {
        return call("get(" + finding + ", " + object + ")", x -> Check.get(x, finding, object));
    }

    int look(int object, int what) {
        return call("look(" + object + ", " + what + ")", x -> x.look(object, what));
    }

    int shape(int shape, int what) {
        return call("shape(" + shape + ", " + what + ")", x -> x.shape(shape, what));
    }

    int finding(int finding, int what) {
        return call("finding(" + finding + ", " + what + ")", x -> x.finding(finding, what));
    }

    int count(int what) {
        return call("count(" + what + ")", x -> x.count(what));
    }

    private int call(String text, ToIntFunction<ShapeKeeper> call) {
        if (isOver()) {
            throw new IllegalStateException("the test makes more than 512 calls in one run");
        }
        last = text;
        calls.add(call);
        return call.applyAsInt(keeper);
    }

    boolean isOver() {
        return calls.size() >= MOST_CALLS;
    }

    /** The same calls on another new ShapeKeeper. */
    Run again() {
        Run other = new Run();
        for (ToIntFunction<ShapeKeeper> call : calls) {
            other.call(last, call);
        }
        return other;
    }

    String last() {
        return last;
    }

    /** The answer of the call made last is the one that is due. */
    void due(int got, int want) {
        Check.due(last, got, want);
    }

    /** Each look at an object, shape or finding, from what 0 on, has the answer that is due. */
    void looks(int object, int... want) {
        for (int what = 0; what < want.length; what++) {
            due(look(object, what), want[what]);
        }
    }

    void shapes(int shape, int... want) {
        for (int what = 0; what < want.length; what++) {
            due(shape(shape, what), want[what]);
        }
    }

    void findings(int finding, int... want) {
        for (int what = 0; what < want.length; what++) {
            due(finding(finding, what), want[what]);
        }
    }

    void counts(int... want) {
        for (int what = 0; what < want.length; what++) {
            due(count(what), want[what]);
        }
    }

    /** The call has the answer that is due, and all is as it would be without it. */
    void unchanged(int want, ToIntFunction<Run> call) {
        Run without = again();
        due(call.applyAsInt(this), want);
        Check.due(last + " changed nothing", Views.difference(this, without), "nothing");
    }
}
