import java.io.ByteArrayOutputStream;
import java.io.IOException;
import java.io.PrintStream;
import java.lang.reflect.Method;
import java.lang.reflect.Modifier;
import java.net.URL;
import java.net.URLClassLoader;
import java.nio.charset.StandardCharsets;
import java.nio.file.Files;
import java.nio.file.Path;
import java.util.ArrayList;
import java.util.Arrays;
import java.util.List;
import javax.tools.ToolProvider;

/**
 * README.md is right as it stands: its example compiles and prints what README.md says that it
 * prints, and its tables tell every call of the face and no other one.
 */
public final class ReadmeTest {
    private static final Check check = new Check("readme");
    private static final Path README = Path.of("README.md");
    private static final Path BUILD = Path.of("build", "readme");

    public static void main(String[] args) throws Exception {
        List<String> lines = Files.readAllLines(README);
        String printed = printedBy(block(lines, "java"));
        check.due("what the example prints", block(lines, "text"), () -> printed);
        check.due("the calls in the tables", callsOfFace(), () -> callsInTables(lines));
        check.end();
    }

    /** The lines of the one block of a kind, each with a line end. */
    private static String block(List<String> lines, String kind) {
        int start = lines.indexOf("```" + kind);
        check.due("README.md has one block of " + kind, true,
                () -> start >= 0 && start == lines.lastIndexOf("```" + kind));
        StringBuilder text = new StringBuilder();
        for (int i = start + 1; i < lines.size() && !lines.get(i).equals("```"); i++) {
            text.append(lines.get(i)).append('\n');
        }
        return text.toString();
    }

    private static String printedBy(String program) throws IOException, ReflectiveOperationException {
        Files.createDirectories(BUILD);
        Path file = BUILD.resolve("Example.java");
        Files.writeString(file, program);
        int result = ToolProvider.getSystemJavaCompiler().run(null, null, null, "-Xlint:all", "-Werror",
                "-cp", System.getProperty("java.class.path"), "-d", BUILD.toString(), file.toString());
        check.due("exit code of the example's compiler", 0, () -> result);
        return result == 0 ? printedByMain() : "";
    }

    private static String printedByMain() throws IOException, ReflectiveOperationException {
        PrintStream usual = System.out;
        ByteArrayOutputStream printed = new ByteArrayOutputStream();
        try (URLClassLoader loader = new URLClassLoader(new URL[] {BUILD.toUri().toURL()})) {
            Method main = loader.loadClass("Example").getMethod("main", String[].class);
            System.setOut(new PrintStream(printed, true, StandardCharsets.UTF_8));
            main.invoke(null, (Object) new String[0]);
        } finally {
            System.setOut(usual);
        }
        return printed.toString(StandardCharsets.UTF_8).replace(System.lineSeparator(), "\n");
    }

    /** Each call as its name and the number of its parameters, sorted. */
    private static List<String> callsOfFace() {
        List<String> calls = new ArrayList<>();
        for (Method method : EventTracer.class.getDeclaredMethods()) {
            if (Modifier.isPublic(method.getModifiers())) {
                calls.add(method.getName() + " " + method.getParameterCount());
            }
        }
        calls.sort(null);
        return calls;
    }

    /** A table's row of a call begins with the call, such as "| `bound(from, to)` |". */
    private static List<String> callsInTables(List<String> lines) {
        List<String> calls = new ArrayList<>();
        for (String line : lines) {
            if (line.matches("\\| `\\w+\\(.*\\)` \\|.*")) {
                String name = line.substring(line.indexOf('`') + 1, line.indexOf('('));
                String parameters = line.substring(line.indexOf('(') + 1, line.indexOf(')'));
                long count = Arrays.stream(parameters.split(", ")).filter(word -> !word.isEmpty()).count();
                calls.add(name + " " + count);
            }
        }
        calls.sort(null);
        return calls;
    }
}
