import java.io.ByteArrayOutputStream;
import java.io.IOException;
import java.io.PrintStream;
import java.io.UncheckedIOException;
import java.lang.reflect.Field;
import java.lang.reflect.Method;
import java.lang.reflect.Modifier;
import java.net.URL;
import java.net.URLClassLoader;
import java.nio.charset.StandardCharsets;
import java.nio.file.Files;
import java.nio.file.Path;
import java.util.Comparator;
import java.util.List;
import java.util.stream.Stream;
import javax.tools.JavaCompiler;
import javax.tools.ToolProvider;

/** README.md: its example prints what stands below it; each call and each constant is told. */
final class ReadmeTests {
    private static final String PROGRAM_FENCE = "```java\n";
    private static final String OUTPUT_FENCE = "```text\n";
    private static final String CLOSING_FENCE = "\n```\n";

    private final Checks c;

    ReadmeTests(Checks checks) {
        c = checks;
    }

    void run() {
        c.test("README: the example prints what stands below it", this::example);
        c.test("README: each call is told", this::calls);
        c.test("README: each constant is told with its answer", this::constants);
    }

    private static String readme() {
        try {
            return Files.readString(Path.of("README.md"), StandardCharsets.UTF_8);
        } catch (IOException thrown) {
            throw new UncheckedIOException("README.md is read from the project's folder", thrown);
        }
    }

    /** What stands in the only block that a fence begins; empty if there is not just one. */
    private static String blockOf(String text, String fence) {
        int from = text.indexOf(fence);
        if (from < 0 || from != text.lastIndexOf(fence)) {
            return "";
        }
        int to = text.indexOf(CLOSING_FENCE, from);
        return to < 0 ? "" : text.substring(from + fence.length(), to + 1);
    }

    // ---- the example

    private void example() {
        String text = readme();
        String program = blockOf(text, PROGRAM_FENCE);
        String output = blockOf(text, OUTPUT_FENCE);
        c.due("one example", program.isEmpty() ? 0 : 1, 1);
        c.due("one output", output.isEmpty() ? 0 : 1, 1);
        if (c.anyWrong()) {
            return;
        }
        try {
            Path folder = Files.createTempDirectory("readme");
            try {
                c.due("the example", outputOf(folder, program), output);
            } finally {
                delete(folder);
            }
        } catch (IOException | ReflectiveOperationException thrown) {
            c.due("the example", thrown.toString(), output);
        }
    }

    private static String outputOf(Path folder, String program)
            throws IOException, ReflectiveOperationException {
        Path source = folder.resolve("Example.java");
        Files.writeString(source, program, StandardCharsets.UTF_8);
        JavaCompiler compiler = ToolProvider.getSystemJavaCompiler();
        if (compiler == null) {
            return "there is no compiler";
        }
        int exit = compiler.run(null, System.out, System.out, "-Xlint:all", "-Werror", "-d",
                folder.toString(), "-cp", System.getProperty("java.class.path"), source.toString());
        return exit == 0 ? printedBy(folder) : "it does not compile";
    }

    private static String printedBy(Path folder) throws IOException, ReflectiveOperationException {
        PrintStream console = System.out;
        ByteArrayOutputStream printed = new ByteArrayOutputStream();
        URL[] places = {folder.toUri().toURL()};
        try (URLClassLoader loader = new URLClassLoader(places, KiteHire.class.getClassLoader())) {
            Method main = loader.loadClass("Example").getMethod("main", String[].class);
            System.setOut(new PrintStream(printed, true, StandardCharsets.UTF_8));
            main.invoke(null, (Object) new String[0]);
        } finally {
            System.setOut(console);
        }
        return printed.toString(StandardCharsets.UTF_8).replace(System.lineSeparator(), "\n");
    }

    private static void delete(Path folder) throws IOException {
        List<Path> deepestFirst;
        try (Stream<Path> all = Files.walk(folder)) {
            deepestFirst = all.sorted(Comparator.reverseOrder()).toList();
        }
        for (Path path : deepestFirst) {
            Files.delete(path);
        }
    }

    // ---- the tables

    private void calls() {
        String text = readme();
        for (Method method : KiteHire.class.getDeclaredMethods()) {
            if (Modifier.isPublic(method.getModifiers())) {
                String name = "`" + method.getName() + "`";
                boolean told = text.lines().anyMatch(line -> line.startsWith("|") && line.contains(name));
                c.due(name + " stands in a table", told ? 1 : 0, 1);
            }
        }
    }

    private void constants() {
        String text = readme();
        for (Field field : KiteHire.class.getFields()) {
            try {
                String row = "| " + field.getInt(null) + " | `KiteHire." + field.getName() + "` |";
                c.due(row, text.contains("\n" + row) ? 1 : 0, 1);
            } catch (IllegalAccessException thrown) {
                c.due(field.getName(), thrown.toString(), "an int");
            }
        }
    }
}
