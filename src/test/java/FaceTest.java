import java.lang.reflect.Constructor;
import java.lang.reflect.Field;
import java.lang.reflect.Method;
import java.lang.reflect.Modifier;
import java.util.Set;
import java.util.TreeSet;

/** The public face: the document's members, and no other that is not private. */
public final class FaceTest {
    private static final Set<String> DUE = Set.of(
            "public static final int ShapeKeeper.NONE",
            "public ShapeKeeper()",
            "public int ShapeKeeper.object(int) throws java.lang.IllegalArgumentException,java.lang.IllegalStateException",
            "public boolean ShapeKeeper.set(int,int,int)",
            "public boolean ShapeKeeper.drop(int,int)",
            "public boolean ShapeKeeper.turn(int,int)",
            "public int ShapeKeeper.read(int,int) throws java.lang.IllegalArgumentException,java.lang.IndexOutOfBoundsException",
            "public int ShapeKeeper.find(int,int)",
            "public boolean ShapeKeeper.holds(int,int)",
            "public int ShapeKeeper.get(int,int) throws java.lang.IllegalArgumentException,java.lang.IllegalStateException,java.lang.IndexOutOfBoundsException",
            "public int ShapeKeeper.look(int,int)",
            "public int ShapeKeeper.shape(int,int)",
            "public int ShapeKeeper.finding(int,int)",
            "public int ShapeKeeper.count(int)");

    public static void main(String[] args) {
        Set<String> there = new TreeSet<>();
        for (Field field : ShapeKeeper.class.getDeclaredFields()) {
            add(there, field.getModifiers(), field.toGenericString());
        }
        for (Method method : ShapeKeeper.class.getDeclaredMethods()) {
            add(there, method.getModifiers(), method.toGenericString());
        }
        for (Constructor<?> constructor : ShapeKeeper.class.getDeclaredConstructors()) {
            add(there, constructor.getModifiers(), constructor.toGenericString());
        }
        int modifiers = ShapeKeeper.class.getModifiers();
        Check.due("the class is public", Modifier.isPublic(modifiers), true);
        Check.due("the class is final", Modifier.isFinal(modifiers), true);
        for (String member : DUE) {
            Check.due("the face has " + member, there.contains(member), true);
        }
        for (String member : there) {
            Check.due("the document has " + member, DUE.contains(member), true);
        }
        Check.end();
    }

    private static void add(Set<String> there, int modifiers, String member) {
        if (!Modifier.isPrivate(modifiers)) {
            there.add(member);
        }
    }
}
