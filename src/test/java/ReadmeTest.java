import java.io.ByteArrayOutputStream;
import java.io.IOException;
import java.io.PrintStream;
import java.lang.reflect.InvocationTargetException;
import java.lang.reflect.Method;
import java.lang.reflect.Modifier;
import java.net.URL;
import java.net.URLClassLoader;
import java.nio.file.Files;
import java.nio.file.Path;
import java.util.ArrayList;
import java.util.List;
import java.util.regex.Matcher;
import java.util.regex.Pattern;
import javax.tools.JavaCompiler;
import javax.tools.ToolProvider;

/** README.md: its example compiles and answers what it says, and its table names each call as it is. */
public final class ReadmeTest {
    private static final Path README = Path.of("README.md");
    private static final Path FOLDER = Path.of("build", "readme");
    private static final Pattern EXAMPLE = Pattern.compile("```java\n(.*?)```", Pattern.DOTALL);
    private static final Pattern CLASS = Pattern.compile("public class (\\w+) ");
    // What is told behind // ends with a colon, where the reason begins.
    private static final Pattern PRINTED = Pattern.compile("println\\((.*)\\); +// ([^:]+)(: .+)?");
    private static final Pattern ROW = Pattern.compile("\\| `(\\w+)\\((.*)\\)` \\| .* \\| (.*)\\|");
    private static final Pattern NAMED = Pattern.compile("(?:^|; )(Bounds|Argument|State)\\b");

    private static final Check CHECK = new Check("ReadmeTest");

    public static void main(String[] args) throws IOException, ReflectiveOperationException {
        String readme = Files.readString(README);
        Matcher example = EXAMPLE.matcher(readme);
        CHECK.due("README.md has an example", example.find(), true);
        theExampleAnswersWhatItSays(example.group(1));
        theExampleMakesEachCall(example.group(1));
        theTableNamesEachCall(readme);
        CHECK.end();
    }

    private static void theExampleAnswersWhatItSays(String source) throws IOException, ReflectiveOperationException {
        Matcher named = CLASS.matcher(source);
        CHECK.due("the example is a public class", named.find(), true);
        CHECK.due("the example's errors and warnings", compiled(named.group(1), source), "");
        List<String> printed = printedBy(named.group(1));
        int line = 0;
        for (String text : source.split("\n")) {
            if (text.contains("println")) {
                Matcher told = PRINTED.matcher(text);
                boolean isTold = told.find();
                CHECK.due("whether // tells what this prints: " + text.trim(), isTold, true);
                if (isTold) {
                    CHECK.due(told.group(1), line < printed.size() ? printed.get(line) : "nothing", told.group(2));
                }
                line++;
            }
        }
        CHECK.due("lines that the example prints", printed.size(), line);
    }

    private static String compiled(String name, String source) throws IOException {
        Files.createDirectories(FOLDER);
        Path file = FOLDER.resolve(name + ".java");
        Files.writeString(file, source);
        JavaCompiler compiler = ToolProvider.getSystemJavaCompiler();
        ByteArrayOutputStream errors = new ByteArrayOutputStream();
        compiler.run(null, null, errors, "--release", "17", "-Xlint:all", "-Werror",
            "-cp", System.getProperty("java.class.path"), "-d", FOLDER.toString(), file.toString());
        return errors.toString();
    }

    private static List<String> printedBy(String name) throws IOException, ReflectiveOperationException {
        ByteArrayOutputStream printed = new ByteArrayOutputStream();
        PrintStream before = System.out;
        String thrown = "";
        try (URLClassLoader loader = new URLClassLoader(new URL[] {FOLDER.toUri().toURL()})) {
            Method main = loader.loadClass(name).getMethod("main", String[].class);
            System.setOut(new PrintStream(printed, true));
            main.invoke(null, (Object) new String[0]);
        } catch (InvocationTargetException e) {
            thrown = e.getCause().toString();
        } finally {
            System.setOut(before);
        }
        CHECK.due("what the example threw", thrown, "");
        return printed.toString().lines().toList();
    }

    private static void theExampleMakesEachCall(String source) {
        for (Method method : calls()) {
            String call = "theatre." + method.getName() + "(";
            CHECK.due("the example makes the call " + method.getName(), source.contains(call), true);
        }
    }

    /** Each call has one row, with its parameters and its exceptions in the order of its throws clause. */
    private static void theTableNamesEachCall(String readme) {
        List<String> rows = new ArrayList<>();
        Matcher row = ROW.matcher(readme);
        while (row.find()) {
            int parameters = row.group(2).isEmpty() ? 0 : row.group(2).split(", ").length;
            rows.add(row.group(1) + " " + parameters + thrownIn(row.group(3)));
        }
        for (Method method : calls()) {
            StringBuilder due = new StringBuilder(method.getName() + " " + method.getParameterCount());
            for (Class<?> thrown : method.getExceptionTypes()) {
                due.append(' ').append(thrown.getSimpleName());
            }
            CHECK.due("a row of the table for " + due, rows.remove(due.toString()), true);
        }
        CHECK.due("rows of the table for no call", rows, List.of());
    }

    private static String thrownIn(String cell) {
        StringBuilder thrown = new StringBuilder();
        Matcher named = NAMED.matcher(cell);
        while (named.find()) {
            thrown.append(switch (named.group(1)) {
                case "Bounds" -> " IndexOutOfBoundsException";
                case "Argument" -> " IllegalArgumentException";
                default -> " IllegalStateException";
            });
        }
        return thrown.toString();
    }

    private static List<Method> calls() {
        List<Method> calls = new ArrayList<>();
        for (Method method : Clockmask.class.getDeclaredMethods()) {
            if (Modifier.isPublic(method.getModifiers())) {
                calls.add(method);
            }
        }
        return calls;
    }
}
