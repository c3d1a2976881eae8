/** Counts and prints the answers that are not as due. */
final class Check {
    /** Stand for exceptions among the answers; far from every value that the tests write. */
    static final int ARGUMENT = -1_000_001;
    static final int STATE = -1_000_002;
    static final int INDEX = -1_000_003;

    private static int wrong = 0;
    private static String at = "";

    private Check() {}

    /** What stands in front of each wrong answer from now on. */
    static void at(String where) {
        at = where;
    }

    static void due(String call, int got, int want) {
        if (got != want) {
            due(call, show(got), show(want));
        }
    }

    static void due(String call, String got, String want) {
        if (!got.equals(want)) {
            wrong++;
            System.out.println(at + call + " answered " + got + ", due is " + want);
        }
    }

    static void due(String call, boolean got, boolean want) {
        due(call, got ? 1 : 0, want ? 1 : 0);
    }

    private static String show(int answer) {
        switch (answer) {
            case ARGUMENT:
                return "IllegalArgumentException";
            case STATE:
                return "IllegalStateException";
            case INDEX:
                return "IndexOutOfBoundsException";
            default:
                return Integer.toString(answer);
        }
    }

    static int object(ShapeKeeper x, int prototype) {
        try {
            return x.object(prototype);
        } catch (IllegalArgumentException | IllegalStateException e) {
            return codeOf(e);
        }
    }

    static int read(ShapeKeeper x, int object, int name) {
        try {
            return x.read(object, name);
        } catch (IllegalArgumentException | IndexOutOfBoundsException e) {
            return codeOf(e);
        }
    }

    static int get(ShapeKeeper x, int finding, int object) {
        try {
            return x.get(finding, object);
        } catch (IllegalArgumentException | IllegalStateException | IndexOutOfBoundsException e) {
            return codeOf(e);
        }
    }

    /** The very class is asked for, as the machine's own exceptions stand below these. */
    private static int codeOf(RuntimeException e) {
        if (e.getClass() == IllegalArgumentException.class) {
            return ARGUMENT;
        }
        if (e.getClass() == IllegalStateException.class) {
            return STATE;
        }
        if (e.getClass() == IndexOutOfBoundsException.class && e.getStackTrace().length > 0
                && e.getStackTrace()[0].getClassName().equals("ShapeKeeper")) {
            return INDEX;
        }
        throw e;
    }

    static void end() {
        System.out.println(wrong == 0 ? "all answers are as due" : wrong + " answers are not as due");
        if (wrong != 0) {
            System.exit(1);
        }
    }
}
