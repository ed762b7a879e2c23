import java.io.ByteArrayOutputStream;
import java.io.IOException;
import java.io.PrintStream;
import java.lang.reflect.Method;
import java.lang.reflect.Modifier;
import java.net.URL;
import java.net.URLClassLoader;
import java.nio.charset.StandardCharsets;
import java.nio.file.Files;
import java.nio.file.Path;
import java.util.List;
import java.util.stream.Collectors;
import java.util.stream.Stream;
import javax.tools.ToolProvider;

/** What README.md shows must compile and do what it says, and it names every call and every test. */
public final class ReadmeTest {
    private static final Path README = Path.of("README.md");
    private static final Path MADE = Path.of("build", "readme");
    private static final Path TESTS = Path.of("src", "test", "java");

    public static void main(String[] args) throws Exception {
        List<String> lines = Files.readAllLines(README, StandardCharsets.UTF_8);
        example(lines);
        calls(lines);
        tests(lines);
        Check.that("README.md does not tell how to run the tests", lines.contains("    .ci/run"));
        Check.end();
    }

    private static void example(List<String> lines) throws Exception {
        Path made = Files.createDirectories(MADE);
        Path source = made.resolve("Example.java");
        Files.writeString(source, "public class Example { public static void main(String[] args) {\n"
                + code(lines) + "} }\n");
        String path = System.getProperty("java.class.path");
        int failed = ToolProvider.getSystemJavaCompiler()
                .run(null, null, null, "-cp", path, "-d", made.toString(), source.toString());
        Check.same("the compiler", failed, 0);
        if (failed == 0) {
            String got = printed(made);
            Check.that("the example printed '" + got + "', due is 'Hello'", got.equals("Hello"));
        }
    }

    private static String code(List<String> lines) {
        StringBuilder code = new StringBuilder();
        boolean inside = false;
        for (String line : lines) {
            if (line.startsWith("```")) {
                inside = line.equals("```java");
            } else if (inside) {
                code.append(line).append('\n');
            }
        }
        return code.toString();
    }

    private static String printed(Path made) throws Exception {
        PrintStream out = System.out;
        ByteArrayOutputStream got = new ByteArrayOutputStream();
        try (URLClassLoader loader = new URLClassLoader(new URL[] {made.toUri().toURL()})) {
            Method main = loader.loadClass("Example").getMethod("main", String[].class);
            System.setOut(new PrintStream(got, true, StandardCharsets.UTF_8));
            main.invoke(null, (Object) new String[0]);
        } finally {
            System.setOut(out);
        }
        return got.toString(StandardCharsets.UTF_8);
    }

    /** A call's row begins with its name and tells every exception that its face tells. */
    private static void calls(List<String> lines) {
        for (Method m : SealedStream.class.getDeclaredMethods()) {
            if (Modifier.isPublic(m.getModifiers())) {
                String row = row(lines, "| `" + m.getName() + "(");
                for (Class<?> e : m.getExceptionTypes()) {
                    Check.that(m.getName() + ": no word of " + e, row.contains(e.getSimpleName() + ": "));
                }
            }
        }
    }

    private static void tests(List<String> lines) throws IOException {
        try (Stream<Path> files = Files.list(TESTS)) {
            for (Path file : files.collect(Collectors.toList())) {
                String name = file.getFileName().toString();
                if (name.endsWith("Test.java")) {
                    row(lines, "| " + name.substring(0, name.length() - ".java".length()) + " |");
                }
            }
        }
    }

    private static String row(List<String> lines, String begin) {
        List<String> rows = lines.stream().filter(line -> line.startsWith(begin)).collect(Collectors.toList());
        Check.same("rows in README.md that begin with '" + begin + "'", rows.size(), 1);
        return rows.isEmpty() ? "" : rows.get(0);
    }
}
