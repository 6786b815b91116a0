import java.io.IOException;
import java.lang.reflect.Method;
import java.lang.reflect.Modifier;
import java.net.URL;
import java.net.URLClassLoader;
import java.nio.file.Files;
import java.nio.file.Path;
import java.util.ArrayList;
import java.util.List;
import java.util.regex.Matcher;
import java.util.regex.Pattern;
import javax.tools.ToolProvider;

/** README.md: its example is run and must answer what it says; its tables leave out no call. */
public final class ReadmeTest {
    private static final Path README = Path.of("README.md");
    private static final Pattern EXAMPLE = Pattern.compile("(?s)```java\n(.*?)```");
    private static final Pattern MAKES = Pattern.compile("NearBook book = new NearBook\\(\\);");
    private static final Pattern NAMES = Pattern.compile("(int (\\w) = .*);\\s+// (-?\\d+).*");
    private static final Pattern ASKS = Pattern.compile("(book\\..*);\\s+// (-?\\d+|true|false)\\b.*");

    private static int answers = 0;
    private static int wrong = 0;

    public static void main(String[] args) throws Exception {
        String text = Files.readString(README);
        Matcher example = EXAMPLE.matcher(text);
        if (example.find()) {
            run(example.group(1).split("\n"));
        }
        due("examples with answers", answers > 0, true);
        tables(text);
        kinds(text);
        System.out.println("ReadmeTest: " + answers + " answers, " + wrong + " not as due");
        if (wrong != 0) {
            System.exit(1);
        }
    }

    /** Called by the example too, once it has been made a program. */
    public static void due(String call, Object got, Object want) {
        answers++;
        if (!want.equals(got)) {
            wrong++;
            System.out.println("README.md: " + call + " answered " + got + ", due is " + want);
        }
    }

    private static void run(String[] lines) throws Exception {
        List<String> program = new ArrayList<>();
        program.add("public final class Example { public static void main(String[] args) {");
        for (String line : lines) {
            program.add(statement(line));
        }
        program.add("} }");
        Path place = Files.createTempDirectory("readme");
        Path source = place.resolve("Example.java");
        Files.write(source, program);
        int refused = ToolProvider.getSystemJavaCompiler().run(null, null, null, "-cp",
            System.getProperty("java.class.path"), "-d", place.toString(), source.toString());
        due("javac of the example", refused, 0);
        if (refused == 0) {
            start(place);
        }
        tidy(place);
    }

    private static String statement(String line) {
        Matcher names = NAMES.matcher(line);
        if (names.matches()) {
            return names.group(1) + "; " + check(names.group(1), names.group(2), names.group(3));
        }
        Matcher asks = ASKS.matcher(line);
        if (asks.matches()) {
            return check(asks.group(1), asks.group(1), asks.group(2));
        }
        due("a line of the example: " + line, MAKES.matcher(line).matches(), true);
        return line;
    }

    // Texts are compared, so that an int, a long and a boolean are all told alike.
    private static String check(String call, String got, String want) {
        return "ReadmeTest.due(\"" + call + "\", String.valueOf(" + got + "), \"" + want + "\");";
    }

    private static void start(Path place) throws Exception {
        URL[] where = {place.toUri().toURL()};
        try (URLClassLoader loader = new URLClassLoader(where, ReadmeTest.class.getClassLoader())) {
            loader.loadClass("Example").getMethod("main", String[].class).invoke(null, (Object) new String[0]);
        }
    }

    private static void tidy(Path place) throws IOException {
        Files.deleteIfExists(place.resolve("Example.class"));
        Files.deleteIfExists(place.resolve("Example.java"));
        Files.delete(place);
    }

    private static void tables(String text) {
        for (Method method : NearBook.class.getDeclaredMethods()) {
            if (Modifier.isPublic(method.getModifiers())) {
                String parameters = "\\w+, ".repeat(method.getParameterCount()).replaceAll(", $", "");
                Pattern cell = Pattern.compile("(?m)^\\|.*`" + method.getName() + "\\(" + parameters + "\\)`.*\\|$");
                due("a row for " + method.getName(), cell.matcher(text).find(), true);
            }
        }
    }

    private static void kinds(String text) {
        NearBook book = new NearBook();
        for (int k = 0; k < 10; k++) {
            due("a row for kind " + k, Pattern.compile("(?m)^\\| " + k + " \\|").matcher(text).find(), book.kind(k));
        }
    }
}
