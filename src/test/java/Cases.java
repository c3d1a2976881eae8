import java.lang.reflect.InvocationTargetException;
import java.lang.reflect.Method;
import java.lang.reflect.Modifier;
import java.util.Arrays;
import java.util.Comparator;

/** Runs each case of a test class by itself: every static method without parameters. */
final class Cases {
    private Cases() {}

    static void runAll(Class<?> test) {
        Method[] methods = test.getDeclaredMethods();
        Arrays.sort(methods, Comparator.comparing(Method::getName));
        int ran = 0;
        for (Method method : methods) {
            if (isCase(method)) {
                runOne(method);
                ran++;
            }
        }
        Check.at("");
        Check.due(test.getName() + " has cases", ran > 0, true);
        System.out.println(ran + " cases");
        Check.end();
    }

    private static boolean isCase(Method method) {
        return Modifier.isStatic(method.getModifiers())
                && !Modifier.isPrivate(method.getModifiers())
                && method.getParameterCount() == 0
                && !method.isSynthetic();
    }

    /** An exception that no call may throw ends its own case alone, and is a wrong answer of it. */
    private static void runOne(Method method) {
        Check.at(method.getName() + ": ");
        try {
            method.invoke(null);
        } catch (InvocationTargetException e) {
            Check.due("the case", e.getCause().toString(), "an end without this exception");
        } catch (IllegalAccessException e) {
            throw new IllegalStateException(e);
        }
    }
}
