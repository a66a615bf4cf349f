import java.io.IOException;
import java.lang.reflect.Method;
import java.lang.reflect.Modifier;
import java.net.URL;
import java.net.URLClassLoader;
import java.nio.file.Files;
import java.nio.file.Path;
import java.util.Comparator;
import java.util.List;
import java.util.regex.Matcher;
import java.util.regex.Pattern;
import java.util.stream.Stream;
import javax.tools.ToolProvider;

/** README.md's example answers what it says, and its table has each call; run from the project's folder. */
public final class ReadmeTest {
    private static final Pattern CODE = Pattern.compile("(?s)```java\n(.*?)```");
    private static final Pattern ANSWERED = Pattern.compile("(?:int (\\w+) = )?(.*\\));\\s*// (-?\\d+): .*");
    private static final Checks checks = new Checks();

    public static void main(String[] args) throws IOException, ReflectiveOperationException {
        String text = Files.readString(Path.of("README.md"));
        Matcher code = CODE.matcher(text);
        checks.holds("an example stands in README.md", code.find());
        runExample(code.group(1).lines().toList());
        everyCallIsInTheTable(text);
        checks.end();
    }

    /** Called from the example's lines. */
    public static void due(String line, long got, long want) {
        checks.due(line, got, want);
    }

    private static void runExample(List<String> lines) throws IOException, ReflectiveOperationException {
        StringBuilder body = new StringBuilder();
        for (String line : lines) {
            body.append(checked(line)).append('\n');
        }
        Path folder = Files.createTempDirectory("readme");
        try {
            compileAndRun(folder, "public class Example { public static void run() {\n" + body + "}}\n");
        } finally {
            delete(folder);
        }
    }

    private static String checked(String line) {
        Matcher m = ANSWERED.matcher(line);
        if (!m.matches()) {
            checks.holds("a line without an answer makes an object or is empty: '" + line + "', which",
                line.isEmpty() || line.startsWith("BatchOrder "));
            return line;
        }
        String call = m.group(2);
        String due = "ReadmeTest.due(\"README.md: " + call + "\", ";
        if (m.group(1) == null) {
            return due + call + ", " + m.group(3) + ");";
        }
        return "int " + m.group(1) + " = " + call + ";\n" + due + m.group(1) + ", " + m.group(3) + ");";
    }

    private static void compileAndRun(Path folder, String source) throws IOException, ReflectiveOperationException {
        Path file = Files.writeString(folder.resolve("Example.java"), source);
        int failed = ToolProvider.getSystemJavaCompiler().run(null, null, null, "-encoding", "UTF-8",
            "-cp", System.getProperty("java.class.path"), "-d", folder.toString(), file.toString());
        checks.due("javac of the example", failed, 0);
        if (failed == 0) {
            URL[] where = {folder.toUri().toURL()};
            try (URLClassLoader loader = new URLClassLoader(where, ReadmeTest.class.getClassLoader())) {
                loader.loadClass("Example").getMethod("run").invoke(null);
            }
        }
    }

    private static void delete(Path folder) throws IOException {
        try (Stream<Path> all = Files.walk(folder)) {
            for (Path path : all.sorted(Comparator.reverseOrder()).toList()) {
                Files.delete(path);
            }
        }
    }

    private static void everyCallIsInTheTable(String text) {
        for (Method m : BatchOrder.class.getDeclaredMethods()) {
            if (Modifier.isPublic(m.getModifiers())) {
                Matcher entry = Pattern.compile("\\| `" + m.getName() + "\\(([^)]*)\\)` \\|").matcher(text);
                checks.holds("README.md's table has " + m.getName() + ", which", entry.find());
                checks.due("arguments told of " + m.getName(), argumentsIn(entry), m.getParameterCount());
            }
        }
    }

    private static int argumentsIn(Matcher entry) {
        if (!entry.reset().find()) {
            return -1;
        }
        return entry.group(1).isEmpty() ? 0 : entry.group(1).split(", ").length;
    }
}
