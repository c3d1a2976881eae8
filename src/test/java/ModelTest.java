import java.util.Random;

/** All promises: many runs of 512 calls on the program and on the model, which must agree. */
public final class ModelTest {
    private static final int RUNS = 1500;
    private static final int CALLS = 512;
    /** Calls that see the limits: counted so that a poor choice of runs would be noticed. */
    private static int fullObjects = 0;
    private static int fullShapes = 0;
    private static int fullFindings = 0;

    public static void main(String[] args) {
        for (int run = 0; run < RUNS; run++) {
            oneRun(run);
        }
        System.out.println("runs that reach 60 objects: " + fullObjects + ", 200 shapes: "
                + fullShapes + ", more than 100 findings: " + fullFindings);
        Check.due("runs reach 60 objects", fullObjects > 50, true);
        Check.due("runs reach 200 shapes", fullShapes > 50, true);
        Check.due("runs reach 100 findings", fullFindings > 50, true);
        Check.end();
    }

    private static void oneRun(int run) {
        Random random = new Random(run);
        ShapeKeeper x = new ShapeKeeper();
        Model model = new Model();
        int[] weights = {1 + random.nextInt(6), 1 + random.nextInt(20), 1 + random.nextInt(6),
            1 + random.nextInt(6), 2, random.nextBoolean() ? 3 : 20, 3, 3};
        int most = 1 + random.nextInt(62);
        int names = 1 + random.nextInt(12);
        for (int call = 0; call < CALLS; call++) {
            oneCall("run " + run + ", call " + call + ": ", pick(random, weights),
                    new int[] {number(random, most, model.count(0)), number(random, names, 12),
                        number(random, most, model.count(0)), number(random, 100, model.count(2)),
                        random.nextInt()},
                    x, model);
            if (call % 64 == 63) {
                compareAll("run " + run + " after call " + call + ": ", x, model);
            }
        }
        fullObjects += model.count(0) == 60 ? 1 : 0;
        fullShapes += model.count(1) >= 199 ? 1 : 0;
        fullFindings += model.count(2) > 100 ? 1 : 0;
    }

    private static int pick(Random random, int[] weights) {
        int sum = 0;
        for (int weight : weights) {
            sum += weight;
        }
        int rest = random.nextInt(sum);
        int kind = 0;
        while (rest >= weights[kind]) {
            rest -= weights[kind];
            kind++;
        }
        return kind;
    }

    /** Mostly a number that is there, at times one at or beyond an edge. */
    private static int number(Random random, int most, int there) {
        int bound = Math.min(most, there);
        int kind = random.nextInt(40);
        if (kind == 0) {
            return there + random.nextInt(2);
        }
        if (kind == 1) {
            return random.nextInt();
        }
        return kind < 5 || bound == 0 ? -1 : random.nextInt(bound);
    }

    private static void oneCall(String at, int kind, int[] a, ShapeKeeper x, Model model) {
        int object = a[0];
        int name = a[1];
        int other = a[2];
        int finding = a[3];
        int value = a[4] % 1000;
        switch (kind) {
            case 0:
                Check.due(at + "object(" + other + ")", Check.object(x, other), model.object(other));
                break;
            case 1:
                Check.due(at + "set(" + object + ", " + name + ", " + value + ")",
                        x.set(object, name, value), model.set(object, name, value));
                break;
            case 2:
                Check.due(at + "drop(" + object + ", " + name + ")",
                        x.drop(object, name), model.drop(object, name));
                break;
            case 3:
                Check.due(at + "turn(" + object + ", " + other + ")",
                        x.turn(object, other), model.turn(object, other));
                break;
            case 4:
                Check.due(at + "read(" + object + ", " + name + ")",
                        Check.read(x, object, name), model.read(object, name));
                break;
            case 5:
                Check.due(at + "find(" + object + ", " + name + ")",
                        x.find(object, name), model.find(object, name));
                break;
            case 6:
                Check.due(at + "holds(" + finding + ", " + object + ")",
                        x.holds(finding, object), model.holds(finding, object));
                break;
            default:
                Check.due(at + "get(" + finding + ", " + object + ")",
                        Check.get(x, finding, object), model.get(finding, object));
                break;
        }
    }

    /** These calls only look, so they are not counted among the 512 of a run. */
    private static void compareAll(String at, ShapeKeeper x, Model model) {
        for (int what = -1; what <= 4; what++) {
            Check.due(at + "count(" + what + ")", x.count(what), model.count(what));
        }
        for (int i = -1; i <= model.count(0); i++) {
            for (int what = -1; what <= 6; what++) {
                Check.due(at + "look(" + i + ", " + what + ")", x.look(i, what), model.look(i, what));
            }
            for (int name = 0; name < 12; name++) {
                Check.due(at + "read(" + i + ", " + name + ")",
                        Check.read(x, i, name), model.read(i, name));
            }
        }
        for (int i = -1; i <= model.count(1); i++) {
            for (int what = -1; what <= 16; what++) {
                Check.due(at + "shape(" + i + ", " + what + ")", x.shape(i, what), model.shape(i, what));
            }
        }
        for (int i = -1; i <= 100; i++) {
            for (int what = -1; what <= 6; what++) {
                Check.due(at + "finding(" + i + ", " + what + ")",
                        x.finding(i, what), model.finding(i, what));
            }
        }
    }
}
