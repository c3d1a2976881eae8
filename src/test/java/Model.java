import java.util.ArrayList;
import java.util.HashMap;
import java.util.LinkedHashMap;
import java.util.List;
import java.util.Map;

/**
 * The document told a second time, with lists and maps instead of the program's rows: shapes are
 * known by their prototype and names, findings remember how often each object on the way had changed.
 */
final class Model {
    private static final int NONE = -1;

    private static final class Thing {
        int prototype;
        int changes;
        LinkedHashMap<Integer, Integer> properties = new LinkedHashMap<>();
    }

    private static final class Found {
        List<Integer> shape;
        int name;
        int where;
        int holder = NONE;
        int place = NONE;
        Map<Integer, Integer> changesOnTheWay = new HashMap<>();
    }

    private final List<Thing> things = new ArrayList<>();
    /** Each shape as its prototype and then its names. */
    private final List<List<Integer>> shapes = new ArrayList<>();
    private final List<Found> all = new ArrayList<>();

    Model() {
        shapes.add(List.of(NONE));
    }

    int object(int prototype) {
        if (prototype != NONE && !isThing(prototype)) {
            return Check.ARGUMENT;
        }
        if (things.size() == 60 || !makeShapes(List.of(prototype))) {
            return Check.STATE;
        }
        Thing thing = new Thing();
        thing.prototype = prototype;
        things.add(thing);
        return things.size() - 1;
    }

    boolean set(int object, int name, int value) {
        if (!isThing(object) || name < 0 || name > 11) {
            return false;
        }
        Thing thing = things.get(object);
        if (!thing.properties.containsKey(name)) {
            List<Integer> shape = shapeOf(object);
            shape.add(name);
            if (!makeShapes(shape)) {
                return false;
            }
            thing.changes++;
        }
        thing.properties.put(name, value);
        return true;
    }

    boolean drop(int object, int name) {
        if (!isThing(object) || !things.get(object).properties.containsKey(name)) {
            return false;
        }
        List<Integer> shape = shapeOf(object);
        shape.subList(1, shape.size()).remove(Integer.valueOf(name));
        if (!makeShapes(shape)) {
            return false;
        }
        things.get(object).properties.remove(name);
        things.get(object).changes++;
        return true;
    }

    boolean turn(int object, int prototype) {
        if (!isThing(object) || prototype != NONE && !isThing(prototype)) {
            return false;
        }
        if (prototype == object || prototype != NONE && above(prototype).contains(object)) {
            return false;
        }
        List<Integer> shape = shapeOf(object);
        shape.set(0, prototype);
        if (!makeShapes(shape)) {
            return false;
        }
        things.get(object).prototype = prototype;
        things.get(object).changes++;
        return true;
    }

    int read(int object, int name) {
        if (!isThing(object)) {
            return Check.ARGUMENT;
        }
        List<Integer> way = above(object);
        way.add(0, object);
        for (int holder : way) {
            Integer value = things.get(holder).properties.get(name);
            if (value != null) {
                return value;
            }
        }
        return Check.INDEX;
    }

    int find(int object, int name) {
        if (!isThing(object) || name < 0 || name > 11) {
            return NONE;
        }
        Found found = new Found();
        found.shape = shapeOf(object);
        found.name = name;
        if (things.get(object).properties.containsKey(name)) {
            found.where = 1;
            found.place = placeIn(object, name);
        } else {
            for (int above : above(object)) {
                found.changesOnTheWay.put(above, things.get(above).changes);
                if (things.get(above).properties.containsKey(name)) {
                    found.where = 2;
                    found.holder = above;
                    found.place = placeIn(above, name);
                    break;
                }
            }
        }
        all.add(found);
        return (all.size() - 1) % 100;
    }

    boolean holds(int finding, int object) {
        Found found = foundAt(finding);
        return found != null && isThing(object) && stands(found)
                && found.shape.equals(shapeOf(object));
    }

    int get(int finding, int object) {
        Found found = foundAt(finding);
        if (found == null) {
            return Check.ARGUMENT;
        }
        if (!holds(finding, object)) {
            return Check.STATE;
        }
        return found.where == 0 ? Check.INDEX : read(object, found.name);
    }

    int look(int object, int what) {
        if (!isThing(object)) {
            return NONE;
        }
        Thing thing = things.get(object);
        switch (what) {
            case 0: return shapes.indexOf(shapeOf(object));
            case 1: return thing.prototype;
            case 2: return thing.properties.size();
            case 3: return thing.changes;
            case 4: return above(object).size();
            case 5: return below(object);
            default: return NONE;
        }
    }

    int shape(int shape, int what) {
        if (shape < 0 || shape >= shapes.size()) {
            return NONE;
        }
        List<Integer> row = shapes.get(shape);
        switch (what) {
            case 0: return row.get(0);
            case 1: return row.size() - 1;
            case 2: return having(row);
            case 3: return row.size() == 1 ? NONE : shapes.indexOf(row.subList(0, row.size() - 1));
            default: return what < 0 || what - 3 >= row.size() ? NONE : row.get(what - 3);
        }
    }

    int finding(int finding, int what) {
        Found found = foundAt(finding);
        if (found == null) {
            return NONE;
        }
        switch (what) {
            case 0: return shapes.indexOf(found.shape);
            case 1: return found.name;
            case 2: return found.where;
            case 3: return found.holder;
            case 4: return found.place;
            case 5: return stands(found) ? 1 : 0;
            default: return NONE;
        }
    }

    int count(int what) {
        switch (what) {
            case 0: return things.size();
            case 1: return shapes.size();
            case 2: return all.size();
            case 3: return standing();
            default: return NONE;
        }
    }

    private boolean isThing(int object) {
        return object >= 0 && object < things.size();
    }

    private List<Integer> shapeOf(int object) {
        List<Integer> shape = new ArrayList<>();
        shape.add(things.get(object).prototype);
        shape.addAll(things.get(object).properties.keySet());
        return shape;
    }

    private boolean makeShapes(List<Integer> shape) {
        List<List<Integer>> missing = new ArrayList<>();
        for (int length = 1; length <= shape.size(); length++) {
            List<Integer> part = new ArrayList<>(shape.subList(0, length));
            if (!shapes.contains(part)) {
                missing.add(part);
            }
        }
        if (shapes.size() + missing.size() > 200) {
            return false;
        }
        shapes.addAll(missing);
        return true;
    }

    private List<Integer> above(int object) {
        List<Integer> above = new ArrayList<>();
        for (int at = things.get(object).prototype; at != NONE; at = things.get(at).prototype) {
            above.add(at);
        }
        return above;
    }

    private int below(int object) {
        int below = 0;
        for (int i = 0; i < things.size(); i++) {
            below += above(i).contains(object) ? 1 : 0;
        }
        return below;
    }

    private int having(List<Integer> shape) {
        int having = 0;
        for (int i = 0; i < things.size(); i++) {
            having += shapeOf(i).equals(shape) ? 1 : 0;
        }
        return having;
    }

    private int placeIn(int object, int name) {
        return new ArrayList<>(things.get(object).properties.keySet()).indexOf(name);
    }

    /** The youngest finding with a number, as it has the number of all before it. */
    private Found foundAt(int finding) {
        if (finding < 0 || finding >= 100 || finding >= all.size()) {
            return null;
        }
        int youngest = finding;
        while (youngest + 100 < all.size()) {
            youngest += 100;
        }
        return all.get(youngest);
    }

    private boolean stands(Found found) {
        for (Map.Entry<Integer, Integer> entry : found.changesOnTheWay.entrySet()) {
            if (things.get(entry.getKey()).changes != entry.getValue()) {
                return false;
            }
        }
        return true;
    }

    private int standing() {
        int standing = 0;
        for (int i = Math.max(0, all.size() - 100); i < all.size(); i++) {
            standing += stands(all.get(i)) ? 1 : 0;
        }
        return standing;
    }
}
