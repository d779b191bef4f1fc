import java.io.IOException;
import java.nio.file.Files;
import java.nio.file.Path;
import java.util.ArrayList;
import java.util.HashMap;
import java.util.List;
import java.util.Map;

/**
 * Runs one test for one sentence of the document, or for one part of it, and keeps which were quoted: so it can
 * be told whether a sentence was left without a test, or a test is held by words that the document has no more.
 */
final class Sentence {
    static final String ARGUMENT = "IllegalArgumentException";
    static final String NUMBER = "IndexOutOfBoundsException";
    static final String STATE = "IllegalStateException";
    static final int LEAST = Integer.MIN_VALUE;
    static final int MOST = Integer.MAX_VALUE;

    private static final Path DOCUMENT = Path.of("../shared/DOC.md");
    /** Sentences of the Terms that name no boundary case. */
    private static final String[] ORDINARY = {
        "The calls tell grains, moons,",
        "Ahead of the calls `",
        "Lanes, grains, moons",
        "### A tick",
        "Resonances, gaps",
        "Frames, claims"};

    private static final Map<String, List<String>> QUOTED = new HashMap<>();

    private Sentence() {
    }

    static void test(String section, String words, Runnable test) {
        QUOTED.computeIfAbsent(section, none -> new ArrayList<>()).add(words);
        int made = Check.madeSoFar();
        int wrong = Check.wrongSoFar();
        try {
            test.run();
        } catch (RuntimeException e) {
            Check.due("the test itself ends with", e.toString(), "no exception");
        }
        Check.due("the test looks at something", Check.madeSoFar() > made, true);
        if (Check.wrongSoFar() > wrong) {
            System.out.println("BROKEN " + section + " | " + words);
        }
    }

    static void promise(int number, String words, Runnable test) {
        test("Promise " + number, words, test);
    }

    /** Every quote is in its section; every sentence of the Terms and every clause of a promise is quoted. */
    static void documentIsQuoted() throws IOException {
        if (!Files.exists(DOCUMENT)) {
            System.out.println("without " + DOCUMENT + " the quotes are not looked up");
            return;
        }
        Map<String, String> sections = sections();
        for (String section : QUOTED.keySet()) {
            String text = sections.getOrDefault(section, "");
            for (String words : QUOTED.get(section)) {
                Check.due("the document says, " + section + ": " + words, text.contains(words), true);
            }
        }
        for (String line : sections.get("Terms").split("\n")) {
            for (String sentence : line.replaceFirst("^(\\d\\.|-) ", "").split("(?<=\\.) +")) {
                Check.due("a test for: " + sentence, isOrdinary(sentence) || isQuoted("Terms", sentence), true);
            }
        }
        for (int number = 1; number <= 23; number++) {
            String section = "Promise " + number;
            String[] clauses = sections.get(section).split("(?=@)");
            // What is ahead of the first @ names a boundary case only when it is all that the promise says.
            for (int i = clauses.length > 1 ? 1 : 0; i < clauses.length; i++) {
                Check.due("a test for " + section + ": " + clauses[i], isQuoted(section, clauses[i]), true);
            }
        }
    }

    static void tellQuotes() {
        for (String section : QUOTED.keySet()) {
            for (String words : QUOTED.get(section)) {
                System.out.println("QUOTED " + section + " | " + words);
            }
        }
    }

    private static Map<String, String> sections() throws IOException {
        Map<String, String> sections = new HashMap<>();
        String name = "";
        for (String line : Files.readAllLines(DOCUMENT)) {
            if (line.startsWith("## ")) {
                name = line.substring(3).replaceFirst(":.*", "");
            } else if (!line.isBlank()) {
                sections.merge(name, line.strip(), (before, more) -> before + "\n" + more);
            }
        }
        return sections;
    }

    private static boolean isOrdinary(String sentence) {
        for (String start : ORDINARY) {
            if (sentence.startsWith(start)) {
                return true;
            }
        }
        return false;
    }

    private static boolean isQuoted(String section, String sentence) {
        for (String words : QUOTED.getOrDefault(section, List.of())) {
            if (sentence.contains(words) || words.contains(sentence.strip())) {
                return true;
            }
        }
        return false;
    }
}
