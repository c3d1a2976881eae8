import java.io.IOException;
import java.lang.reflect.InvocationTargetException;
import java.lang.reflect.Method;
import java.lang.reflect.Modifier;
import java.nio.file.DirectoryStream;
import java.nio.file.Files;
import java.nio.file.Path;
import java.util.Arrays;
import java.util.List;
import java.util.regex.Matcher;
import java.util.regex.Pattern;

/** README.md: each call of its examples answers what stands behind it, and nothing is left out. */
public final class ReadmeTest {
    private static final Path README = Path.of("README.md");
    private static final Path TESTS = Path.of("src/test/java");
    private static final String NEW = "ShapeKeeper keeper = new ShapeKeeper();";
    private static final Pattern CALL =
            Pattern.compile("keeper\\.(\\w+)\\(([^)]*)\\); +// (throws \\w+|-?\\w+)(: .*)?");

    public static void main(String[] args) throws IOException {
        List<String> lines = Files.readAllLines(README);
        runExamples(lines);
        namesEveryCall(String.join("\n", lines));
        namesEveryTest(String.join("\n", lines));
        Check.end();
    }

    private static void runExamples(List<String> lines) {
        ShapeKeeper keeper = null;
        boolean inside = false;
        int calls = 0;
        for (String line : lines) {
            if (line.startsWith("```")) {
                inside = line.equals("```java");
            } else if (inside && line.equals(NEW)) {
                keeper = new ShapeKeeper();
            } else if (inside) {
                runLine(keeper, line);
                calls++;
            }
        }
        System.out.println(calls + " calls of the examples");
        Check.due("the examples have calls", calls > 0, true);
    }

    private static void runLine(ShapeKeeper keeper, String line) {
        Matcher call = CALL.matcher(line);
        if (call.matches()) {
            Check.due(line, answer(keeper, call.group(1), numbers(call.group(2))), call.group(3));
        } else {
            Check.due(line, "no call with an answer", "a call with its answer");
        }
    }

    private static Object[] numbers(String arguments) {
        return Arrays.stream(arguments.replace("ShapeKeeper.NONE", "-1").split(", "))
                .map(Integer::valueOf).toArray();
    }

    private static String answer(ShapeKeeper keeper, String name, Object[] numbers) {
        Class<?>[] types = new Class<?>[numbers.length];
        Arrays.fill(types, int.class);
        try {
            return ShapeKeeper.class.getMethod(name, types).invoke(keeper, numbers).toString();
        } catch (InvocationTargetException e) {
            return "throws " + e.getCause().getClass().getSimpleName();
        } catch (ReflectiveOperationException e) {
            return e.toString();
        }
    }

    /** Each has a row of its own in the table of calls. */
    private static void namesEveryCall(String text) {
        for (Method method : ShapeKeeper.class.getDeclaredMethods()) {
            if (Modifier.isPublic(method.getModifiers())) {
                String row = "| `" + method.getName() + "(";
                Check.due("README.md has " + row, text.contains(row), true);
            }
        }
    }

    private static void namesEveryTest(String text) throws IOException {
        try (DirectoryStream<Path> files = Files.newDirectoryStream(TESTS, "*Test.java")) {
            for (Path file : files) {
                String name = "`" + file.getFileName().toString().replace(".java", "") + "`";
                Check.due("README.md has " + name, text.contains(name), true);
            }
        }
    }
}
