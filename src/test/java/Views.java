import java.util.function.ToIntFunction;

/** All that can be seen of a run, to compare it with another one. */
final class Views {
    private Run one;
    private Run other;
    private final Run firstOne;
    private final Run firstOther;
    private String difference = "nothing";

    private Views(Run one, Run other) {
        firstOne = one;
        firstOther = other;
        this.one = one.again();
        this.other = other.again();
    }

    /** The first call that the runs answer differently; "nothing" if there is none. */
    static String difference(Run one, Run other) {
        Views views = new Views(one, other);
        int objects = views.same(x -> x.count(0));
        int shapes = views.same(x -> x.count(1));
        views.same(x -> x.count(2));
        views.same(x -> x.count(3));
        views.compareObjects(objects);
        views.compareShapes(shapes);
        views.compareFindings(objects);
        views.compareNext();
        return views.difference;
    }

    private void compareObjects(int objects) {
        for (int i = 0; i <= objects; i++) {
            int object = i;
            for (int what = 0; what <= 5; what++) {
                int asked = what;
                same(x -> x.look(object, asked));
            }
            for (int name = 0; name <= 11; name++) {
                int asked = name;
                same(x -> x.read(object, asked));
            }
        }
    }

    private void compareShapes(int shapes) {
        for (int i = 0; i <= shapes; i++) {
            int shape = i;
            for (int what = 0; what <= 15; what++) {
                int asked = what;
                same(x -> x.shape(shape, asked));
            }
        }
    }

    private void compareFindings(int objects) {
        for (int i = 0; i <= 100; i++) {
            int finding = i;
            for (int what = 0; what <= 5; what++) {
                int asked = what;
                same(x -> x.finding(finding, asked));
            }
            for (int object = 0; object < objects; object++) {
                int asked = object;
                same(x -> x.get(finding, asked));
            }
        }
    }

    /** What comes next tells of numbers that no view shows. These calls stand last: they change. */
    private void compareNext() {
        startAnew();
        same(x -> x.find(0, 0));
        same(x -> x.object(Run.NONE));
        same(x -> x.set(0, 11, 1));
        same(x -> x.look(0, 0));
        same(x -> x.turn(0, Run.NONE));
        same(x -> x.look(0, 0));
        same(x -> x.find(0, 11));
    }

    private int same(ToIntFunction<Run> call) {
        if (one.isOver() || other.isOver()) {
            startAnew();
        }
        int answer = call.applyAsInt(one);
        int second = call.applyAsInt(other);
        if (answer != second && difference.equals("nothing")) {
            difference = one.last() + " is " + answer + " with the call, " + second + " without it";
        }
        return answer;
    }

    private void startAnew() {
        one = firstOne.again();
        other = firstOther.again();
    }
}
