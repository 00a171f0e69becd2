import java.io.IOException;
import java.net.URL;
import java.net.URLClassLoader;
import java.nio.file.DirectoryStream;
import java.nio.file.Files;
import java.nio.file.Path;
import java.util.ArrayList;
import java.util.List;
import java.util.regex.Matcher;
import java.util.regex.Pattern;
import javax.tools.ToolProvider;

/** Runs the examples of README.md, and compares them with what their comments say behind = or throws. */
public final class ReadmeTest {
    private static final Pattern BLOCK = Pattern.compile("(?s)```java\n(.*?)```");
    private static final Pattern LINE = Pattern.compile("(?:int (\\w+) = )?(.*?);(?:\\s*// (=|throws) (\\S+).*)?");
    private static final Checks CHECKS = new Checks();

    private ReadmeTest() {
    }

    public static void main(String[] args) throws IOException, ReflectiveOperationException {
        Path directory = Files.createTempDirectory("readme");
        try {
            int examples = 0;
            Matcher block = BLOCK.matcher(Files.readString(Path.of("README.md")));
            while (block.find()) {
                examples++;
                run(directory, "Example" + examples, block.group(1));
            }
            CHECKS.equal("examples", examples, 3);
        } finally {
            deleteAll(directory);
        }
        CHECKS.end();
    }

    /** Called by the examples. */
    public static void due(String line, Object got, String due) {
        CHECKS.same(line, String.valueOf(got), due);
    }

    private static void run(Path directory, String name, String example)
            throws IOException, ReflectiveOperationException {
        List<String> code = new ArrayList<>(List.of("public final class " + name + " {", "public static void run() {"));
        example.lines().filter(line -> !line.isBlank()).forEach(line -> code.add(checked(line)));
        code.addAll(List.of("}", "}"));
        Path file = Files.write(directory.resolve(name + ".java"), code);
        String classPath = System.getProperty("java.class.path");
        int failed = ToolProvider.getSystemJavaCompiler().run(null, null, null,
                "-cp", classPath, "-d", directory.toString(), file.toString());
        CHECKS.equal(name + " compiles with an exit code which", failed, 0);
        if (failed == 0) {
            try (URLClassLoader loader = new URLClassLoader(new URL[] {directory.toUri().toURL()})) {
                loader.loadClass(name).getMethod("run").invoke(null);
            }
        }
    }

    /** The line as Java that tells this test what it answered. */
    private static String checked(String line) {
        Matcher parts = LINE.matcher(line);
        if (!parts.matches()) {
            throw new IllegalStateException("not in the form of an example: " + line);
        }
        String call = parts.group(2);
        String due = "\"" + parts.group(4) + "\"";
        if (parts.group(3) == null) {
            return line;
        }
        if (parts.group(3).equals("throws")) {
            return "try { " + call + "; " + report(call, "\"nothing thrown\"", due)
                    + " } catch (RuntimeException e) { " + report(call, "e.getClass().getSimpleName()", due) + " }";
        }
        String name = parts.group(1);
        return name == null ? report(call, call, due) : "int " + name + " = " + call + "; " + report(call, name, due);
    }

    private static String report(String call, String got, String due) {
        return "ReadmeTest.due(\"" + call + "\", " + got + ", " + due + ");";
    }

    private static void deleteAll(Path directory) throws IOException {
        try (DirectoryStream<Path> files = Files.newDirectoryStream(directory)) {
            for (Path file : files) {
                Files.delete(file);
            }
        }
        Files.delete(directory);
    }
}
