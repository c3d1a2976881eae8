/**
 * Objects with properties, prototypes above one another, and shapes that objects share; findings
 * that tell where a property is for all objects of a shape, as long as nothing on the way has
 * changed.
 */
public final class ShapeKeeper {

    /** None: no prototype, no answer. */
    public static final int NONE = -1;

    private static final int MOST_OBJECTS = 60;
    private static final int MOST_NAMES = 12;
    private static final int MOST_SHAPES = 200;
    private static final int MOST_FINDINGS = 100;

    private static final int NOWHERE = 0;
    private static final int IN_ITSELF = 1;
    private static final int IN_ONE_ABOVE = 2;

    /** The first 'what' of shape() that asks for a name. */
    private static final int FIRST_NAME = 4;

    private final ObjectTable objects;
    private final ShapeTree shapes;
    private final FindingRing findings;

    /** The names that lead to a shape; kept here so that no call makes a row of its own. */
    private final int[] wanted;

    public ShapeKeeper() {
        objects = new ObjectTable();
        shapes = new ShapeTree();
        findings = new FindingRing();
        wanted = new int[MOST_NAMES];
    }

    public int object(int prototype) throws IllegalArgumentException, IllegalStateException {
        if (!objects.canBePrototype(prototype)) {
            throw new IllegalArgumentException("no such prototype");
        }
        if (objects.size >= MOST_OBJECTS) {
            throw new IllegalStateException("no room for an object");
        }
        int shape = shapes.reach(prototype, wanted, 0);
        if (shape == NONE) {
            throw new IllegalStateException("no room for a shape");
        }
        return objects.add(prototype, shape);
    }

    public boolean set(int object, int name, int value) {
        if (!objects.has(object) || !isName(name)) {
            return false;
        }
        int shape = objects.shapes[object];
        int place = shapes.placeOf(shape, name);
        if (place == NONE) {
            int grown = shapes.grow(shape, name);
            if (grown == NONE) {
                return false;
            }
            place = shapes.lengths[shape];
            change(object, grown);
        }
        objects.values[object][place] = value;
        return true;
    }

    public boolean drop(int object, int name) {
        if (!objects.has(object)) {
            return false;
        }
        int shape = objects.shapes[object];
        int place = shapes.placeOf(shape, name);
        if (place == NONE) {
            return false;
        }
        int left = shapes.listNames(shape, name, wanted);
        int reached = shapes.reach(objects.prototypes[object], wanted, left);
        if (reached == NONE) {
            return false;
        }
        objects.closeGap(object, place);
        change(object, reached);
        return true;
    }

    public boolean turn(int object, int prototype) {
        if (!objects.has(object) || !objects.canBePrototype(prototype)) {
            return false;
        }
        if (objects.leadsTo(prototype, object)) {
            return false;
        }
        int length = shapes.listNames(objects.shapes[object], NONE, wanted);
        int reached = shapes.reach(prototype, wanted, length);
        if (reached == NONE) {
            return false;
        }
        objects.prototypes[object] = prototype;
        change(object, reached);
        return true;
    }

    public int read(int object, int name)
            throws IllegalArgumentException, IndexOutOfBoundsException {
        if (!objects.has(object)) {
            throw new IllegalArgumentException("no such object");
        }
        int holder = nearestWith(object, name);
        int place = ownPlace(holder, name);
        if (place == NONE) {
            throw new IndexOutOfBoundsException("the property is nowhere");
        }
        return objects.values[holder][place];
    }

    public int find(int object, int name) {
        if (!objects.has(object) || !isName(name)) {
            return NONE;
        }
        int shape = objects.shapes[object];
        int place = shapes.placeOf(shape, name);
        if (place != NONE) {
            return findings.add(shape, name, NONE, place, 0L);
        }
        int first = objects.prototypes[object];
        int holder = nearestWith(first, name);
        long way = objects.way(first, holder);
        return findings.add(shape, name, holder, ownPlace(holder, name), way);
    }

    public boolean holds(int finding, int object) {
        return findings.has(finding)
                && objects.has(object)
                && findings.holding[finding]
                && findings.shapes[finding] == objects.shapes[object];
    }

    public int get(int finding, int object)
            throws IllegalArgumentException, IllegalStateException, IndexOutOfBoundsException {
        if (!findings.has(finding)) {
            throw new IllegalArgumentException("no such finding");
        }
        if (!holds(finding, object)) {
            throw new IllegalStateException("the finding does not hold for the object");
        }
        int place = findings.places[finding];
        if (place == NONE) {
            throw new IndexOutOfBoundsException("the property is nowhere");
        }
        int holder = findings.holders[finding];
        return objects.values[holder == NONE ? object : holder][place];
    }

    public int look(int object, int what) {
        if (!objects.has(object)) {
            return NONE;
        }
        switch (what) {
            case 0:
                return objects.shapes[object];
            case 1:
                return objects.prototypes[object];
            case 2:
                return shapes.lengths[objects.shapes[object]];
            case 3:
                return objects.changes[object];
            case 4:
                return objects.countAbove(object);
            case 5:
                return objects.countBelow(object);
            default:
                return NONE;
        }
    }

    public int shape(int shape, int what) {
        if (!shapes.has(shape)) {
            return NONE;
        }
        switch (what) {
            case 0:
                return shapes.prototypes[shape];
            case 1:
                return shapes.lengths[shape];
            case 2:
                return objects.countOfShape(shape);
            case 3:
                return shapes.origins[shape];
            default:
                return what < FIRST_NAME ? NONE : shapes.nameAt(shape, what - FIRST_NAME);
        }
    }

    public int finding(int finding, int what) {
        if (!findings.has(finding)) {
            return NONE;
        }
        switch (what) {
            case 0:
                return findings.shapes[finding];
            case 1:
                return findings.names[finding];
            case 2:
                return findings.whereOf(finding);
            case 3:
                return findings.holders[finding];
            case 4:
                return findings.places[finding];
            case 5:
                return findings.holding[finding] ? 1 : 0;
            default:
                return NONE;
        }
    }

    public int count(int what) {
        switch (what) {
            case 0:
                return objects.size;
            case 1:
                return shapes.size;
            case 2:
                return findings.made;
            case 3:
                return findings.countHolding();
            default:
                return NONE;
        }
    }

    private static boolean isName(int name) {
        return name >= 0 && name < MOST_NAMES;
    }

    /** The object has CHANGED, and has a shape that may be another one now. */
    private void change(int object, int shape) {
        objects.shapes[object] = shape;
        objects.changes[object]++;
        findings.breakThrough(object);
    }

    /** The place of a name among an object's own; NONE if it has it not, or there is no object. */
    private int ownPlace(int object, int name) {
        return object == NONE ? NONE : shapes.placeOf(objects.shapes[object], name);
    }

    /** The nearest object that has the name, from the first one upwards; NONE if there is none. */
    private int nearestWith(int first, int name) {
        int at = first;
        for (int steps = 0; at != NONE && steps < MOST_OBJECTS; steps++) {
            if (ownPlace(at, name) != NONE) {
                return at;
            }
            at = objects.prototypes[at];
        }
        return NONE;
    }

    /** The objects, each a number that is an index into every row. */
    private static final class ObjectTable {
        private final int[] prototypes = new int[MOST_OBJECTS];
        private final int[] shapes = new int[MOST_OBJECTS];
        private final int[] changes = new int[MOST_OBJECTS];
        /** Of each object the values, at the places that its shape gives to the names. */
        private final int[][] values = new int[MOST_OBJECTS][MOST_NAMES];
        private int size = 0;

        private boolean has(int object) {
            return object >= 0 && object < size;
        }

        private boolean canBePrototype(int prototype) {
            return prototype == NONE || has(prototype);
        }

        /** Only for callers that have seen that there is room. */
        private int add(int prototype, int shape) {
            int object = size;
            prototypes[object] = prototype;
            shapes[object] = shape;
            size++;
            return object;
        }

        /** The values behind a place each move one forward. */
        private void closeGap(int object, int place) {
            for (int i = place; i + 1 < MOST_NAMES; i++) {
                values[object][i] = values[object][i + 1];
            }
        }

        /** Whether the sought one is the first one or above it. */
        private boolean leadsTo(int first, int sought) {
            int at = first;
            for (int steps = 0; at != NONE && steps < MOST_OBJECTS; steps++) {
                if (at == sought) {
                    return true;
                }
                at = prototypes[at];
            }
            return false;
        }

        /**
         * The objects from the first one up to the last one (NONE: up to the end), a bit for each:
         * a long has room for all of them, as there are fewer than 64.
         */
        private long way(int first, int last) {
            long bits = 0L;
            int at = first;
            for (int steps = 0; at != NONE && steps < MOST_OBJECTS; steps++) {
                bits |= 1L << at;
                if (at == last) {
                    return bits;
                }
                at = prototypes[at];
            }
            return bits;
        }

        private int countAbove(int object) {
            return Long.bitCount(way(prototypes[object], NONE));
        }

        private int countBelow(int object) {
            int below = 0;
            for (int i = 0; i < size; i++) {
                if (leadsTo(prototypes[i], object)) {
                    below++;
                }
            }
            return below;
        }

        private int countOfShape(int shape) {
            int having = 0;
            for (int i = 0; i < size; i++) {
                if (shapes[i] == shape) {
                    having++;
                }
            }
            return having;
        }
    }

    /**
     * The shapes: a tree for each prototype, with the EMPTY one at its root. A shape keeps only the
     * name that it has more than its origin; the others are found on the way to the root.
     */
    private static final class ShapeTree {
        private final int[] prototypes = new int[MOST_SHAPES];
        /** The shape that it came out of by one name more; NONE of an EMPTY one. */
        private final int[] origins = new int[MOST_SHAPES];
        /** The name that it has more than its origin; NONE of an EMPTY one. */
        private final int[] lastNames = new int[MOST_SHAPES];
        private final int[] lengths = new int[MOST_SHAPES];
        private int size;

        private ShapeTree() {
            prototypes[0] = NONE;
            origins[0] = NONE;
            lastNames[0] = NONE;
            size = 1;
        }

        private boolean has(int shape) {
            return shape >= 0 && shape < size;
        }

        /** The EMPTY one of a prototype; NONE if it has not been made. */
        private int emptyOf(int prototype) {
            for (int i = 0; i < size; i++) {
                if (origins[i] == NONE && prototypes[i] == prototype) {
                    return i;
                }
            }
            return NONE;
        }

        /** The one with a name more; NONE if it has not been made. */
        private int withName(int shape, int name) {
            for (int i = shape + 1; i < size; i++) {
                if (origins[i] == shape && lastNames[i] == name) {
                    return i;
                }
            }
            return NONE;
        }

        /** The one with a name more, made if it is wanted first; NONE if there is no room. */
        private int grow(int shape, int name) {
            int next = withName(shape, name);
            if (next != NONE || size >= MOST_SHAPES) {
                return next;
            }
            return makeWith(shape, name);
        }

        /**
         * The shape of a prototype and of the first names of a row, made with all that lead to it;
         * NONE, and nothing is made, if there is no room for them all.
         */
        private int reach(int prototype, int[] names, int length) {
            int at = emptyOf(prototype);
            int done = 0;
            for (int i = 0; at != NONE && i < length; i++) {
                int next = withName(at, names[i]);
                if (next == NONE) {
                    break;
                }
                at = next;
                done++;
            }
            // Behind the first shape that is missing all are missing, so they need not be sought.
            int missing = length - done + (at == NONE ? 1 : 0);
            if (missing > MOST_SHAPES - size) {
                return NONE;
            }
            if (at == NONE) {
                at = makeEmpty(prototype);
            }
            for (int i = done; i < length; i++) {
                at = makeWith(at, names[i]);
            }
            return at;
        }

        private int makeEmpty(int prototype) {
            return make(prototype, NONE, NONE, 0);
        }

        private int makeWith(int shape, int name) {
            return make(prototypes[shape], shape, name, lengths[shape] + 1);
        }

        /** Only for callers that have seen that there is room. */
        private int make(int prototype, int origin, int lastName, int length) {
            int shape = size;
            prototypes[shape] = prototype;
            origins[shape] = origin;
            lastNames[shape] = lastName;
            lengths[shape] = length;
            size++;
            return shape;
        }

        /** The place of a name; NONE if the shape does not have it. */
        private int placeOf(int shape, int name) {
            int at = shape;
            for (int place = lengths[shape] - 1; place >= 0; place--) {
                if (lastNames[at] == name) {
                    return place;
                }
                at = origins[at];
            }
            return NONE;
        }

        /** The name at a place; NONE if the shape has no such place. */
        private int nameAt(int shape, int place) {
            int last = lengths[shape] - 1;
            if (place < 0 || place > last) {
                return NONE;
            }
            int at = shape;
            for (int i = last; i > place; i--) {
                at = origins[at];
            }
            return lastNames[at];
        }

        /** Writes the names in order, but for one (NONE: all), into a row; how many they are. */
        private int listNames(int shape, int butFor, int[] row) {
            int listed = 0;
            for (int place = 0; place < lengths[shape]; place++) {
                int name = nameAt(shape, place);
                if (name != butFor) {
                    row[listed] = name;
                    listed++;
                }
            }
            return listed;
        }
    }

    /** The findings, in a ring: a new one takes the place of the oldest one when it is full. */
    private static final class FindingRing {
        private final int[] shapes = new int[MOST_FINDINGS];
        private final int[] names = new int[MOST_FINDINGS];
        private final int[] holders = new int[MOST_FINDINGS];
        private final int[] places = new int[MOST_FINDINGS];
        /** The objects that break the finding when one of them has CHANGED, a bit for each. */
        private final long[] ways = new long[MOST_FINDINGS];
        private final boolean[] holding = new boolean[MOST_FINDINGS];
        private int made = 0;
        private int there = 0;
        private int next = 0;

        private boolean has(int finding) {
            return finding >= 0 && finding < there;
        }

        private int add(int shape, int name, int holder, int place, long way) {
            int finding = next;
            shapes[finding] = shape;
            names[finding] = name;
            holders[finding] = holder;
            places[finding] = place;
            ways[finding] = way;
            holding[finding] = true;
            made++;
            there = Math.max(there, finding + 1);
            next = finding + 1 < MOST_FINDINGS ? finding + 1 : 0;
            return finding;
        }

        /** What has once changed on the way stays changed, so a broken finding never mends. */
        private void breakThrough(int object) {
            long bit = 1L << object;
            for (int i = 0; i < there; i++) {
                if ((ways[i] & bit) != 0L) {
                    holding[i] = false;
                }
            }
        }

        private int whereOf(int finding) {
            if (places[finding] == NONE) {
                return NOWHERE;
            }
            return holders[finding] == NONE ? IN_ITSELF : IN_ONE_ABOVE;
        }

        private int countHolding() {
            int count = 0;
            for (int i = 0; i < there; i++) {
                if (holding[i]) {
                    count++;
                }
            }
            return count;
        }
    }
}
