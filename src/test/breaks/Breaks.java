import java.io.ByteArrayOutputStream;
import java.io.IOException;
import java.nio.file.Files;
import java.nio.file.Path;
import java.util.ArrayList;
import java.util.Arrays;
import java.util.HashSet;
import java.util.List;
import java.util.Set;
import java.util.stream.Stream;
import javax.tools.ToolProvider;

/**
 * Tries all of breaks.txt: breaks a copy of the class, runs BoundaryTest against it, and tells where the test of the
 * sentence did not fail. It takes half a minute, so .ci/run does without it. From the project's directory:
 * java src/test/breaks/Breaks.java
 */
public final class Breaks {
    private static final Path CLASS = Path.of("src/main/java/RingHerd.java");
    private static final Path TESTS = Path.of("src/test/java");
    private static final Path LIST = Path.of("src/test/breaks/breaks.txt");

    private record Break(String sentence, String line) {
    }

    public static void main(String[] args) throws Exception {
        Path out = Files.createTempDirectory("breaks");
        Path tests = Files.createDirectory(out.resolve("tests"));
        List<String> sources = new ArrayList<>(List.of(CLASS.toString()));
        try (Stream<Path> files = Files.list(TESTS)) {
            files.filter(file -> file.toString().endsWith(".java")).forEach(file -> sources.add(file.toString()));
        }
        compile(tests, sources);
        String text = unindented(Files.readString(CLASS));
        List<Break> breaks = breaks();
        List<String> bad = breaks.parallelStream().map(one -> tried(one, text, out, tests))
            .filter(answer -> !answer.isEmpty()).toList();
        bad.forEach(System.out::println);
        Set<String> without = quoted(tests);
        breaks.forEach(one -> without.remove(one.sentence));
        without.forEach(sentence -> System.out.println("no break for: " + sentence));
        System.out.println(breaks.size() + " breaks, " + bad.size() + " not as due, " + without.size()
            + " sentences without one");
        System.exit(bad.isEmpty() && without.isEmpty() ? 0 : 1);
    }

    private static List<Break> breaks() throws IOException {
        List<Break> breaks = new ArrayList<>();
        String sentence = "";
        for (String line : Files.readAllLines(LIST)) {
            if (line.startsWith("  ")) {
                breaks.add(new Break(sentence, line.strip()));
            } else if (!line.startsWith("#")) {
                sentence = line;
            }
        }
        return breaks;
    }

    /** Nothing, if the test of the sentence fails under this break; otherwise what went wrong. */
    private static String tried(Break one, String text, Path out, Path tests) {
        try {
            String broken = text;
            for (String place : one.line.split(" &&& ")) {
                String[] sides = place.split(" ==> ?", 2);
                String old = sides[0].replace("\\n", "\n");
                int at = broken.indexOf(old);
                if (at < 0 || at != broken.lastIndexOf(old)) {
                    return "not there just once: " + one;
                }
                broken = broken.replace(old, sides[1].replace("\\n", "\n"));
            }
            Path own = Files.createTempDirectory(out, "break");
            Path file = Files.writeString(own.resolve("RingHerd.java"), broken);
            compile(own, List.of(file.toString()));
            String told = run(own + java.io.File.pathSeparator + tests, "BoundaryTest");
            return told.contains("BROKEN " + one.sentence + "\n") ? "" : "not noticed: " + one;
        } catch (IOException | InterruptedException e) {
            return e + ": " + one;
        }
    }

    private static void compile(Path to, List<String> sources) throws IOException {
        List<String> arguments = new ArrayList<>(Arrays.asList("-nowarn", "-d", to.toString()));
        arguments.addAll(sources);
        ByteArrayOutputStream errors = new ByteArrayOutputStream();
        int code = ToolProvider.getSystemJavaCompiler().run(null, errors, errors, arguments.toArray(new String[0]));
        if (code != 0) {
            throw new IOException(errors.toString());
        }
    }

    private static String run(String path, String... program) throws IOException, InterruptedException {
        List<String> command = new ArrayList<>(List.of("java", "-XX:TieredStopAtLevel=1", "-cp", path));
        command.addAll(Arrays.asList(program));
        Process process = new ProcessBuilder(command).redirectErrorStream(true).start();
        String told = new String(process.getInputStream().readAllBytes());
        process.waitFor();
        return told;
    }

    private static Set<String> quoted(Path tests) throws IOException, InterruptedException {
        Set<String> quoted = new HashSet<>();
        for (String line : run(tests.toString(), "BoundaryTest", "quotes").split("\n")) {
            if (line.startsWith("QUOTED ")) {
                quoted.add(line.substring("QUOTED ".length()));
            }
        }
        return quoted;
    }

    private static String unindented(String text) {
        return text.replaceAll("(?m)^ +", "");
    }
}
