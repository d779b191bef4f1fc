import java.io.IOException;
import java.lang.reflect.Method;
import java.lang.reflect.Modifier;
import java.nio.file.Files;
import java.nio.file.Path;
import java.util.stream.Stream;

/**
 * README.md: each call of the class, with its arguments, and each test of the project has one row there.
 * That its example prints what it says is tried by .ci/run.
 */
public final class ReadmeTest {
    public static void main(String[] args) throws IOException {
        String[] lines = Files.readString(Path.of("README.md")).split("\n");
        everyCallHasARow(lines);
        everyTestHasARow(lines);
        Check.end("ReadmeTest");
    }

    private static void everyCallHasARow(String[] lines) {
        int calls = 0;
        for (Method method : RingHerd.class.getDeclaredMethods()) {
            if (Modifier.isPublic(method.getModifiers())) {
                calls++;
                String arguments = "(\\w+, ){" + Math.max(method.getParameterCount() - 1, 0) + "}"
                    + (method.getParameterCount() == 0 ? "" : "\\w+");
                String row = "\\| `" + method.getName() + "\\(" + arguments + "\\)` \\|.*";
                Check.due("rows of " + method, rows(lines, row), 1);
            }
        }
        Check.due("rows of calls", rows(lines, "\\| `\\w+\\(.*\\)` \\|.*"), calls);
    }

    private static void everyTestHasARow(String[] lines) throws IOException {
        int tests = 0;
        try (Stream<Path> files = Files.list(Path.of("src/test/java"))) {
            for (Path file : files.toList()) {
                String name = file.getFileName().toString();
                if (name.endsWith("Test.java")) {
                    tests++;
                    Check.due("rows of " + name, rows(lines, "\\| `" + name.replace(".java", "") + "` \\|.*"), 1);
                }
            }
        }
        Check.due("rows of tests", rows(lines, "\\| `\\w+Test` \\|.*"), tests);
    }

    private static int rows(String[] lines, String row) {
        int found = 0;
        for (String line : lines) {
            if (line.matches(row)) {
                found++;
            }
        }
        return found;
    }
}
