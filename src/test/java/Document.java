import java.io.IOException;
import java.io.UncheckedIOException;
import java.nio.charset.StandardCharsets;
import java.nio.file.Files;
import java.nio.file.Path;
import java.util.ArrayList;
import java.util.List;
import java.util.Map;
import java.util.TreeMap;
import java.util.TreeSet;

/**
 * The sentences of the document, so that a test can name the one that it is for: a run fails if the
 * document has no such words there, or if a sentence of the document is named by no test.
 */
final class Document {
    private static final Path PLACE = Path.of("../shared/DOC.md");
    private static final Map<String, List<String>> SENTENCES = new TreeMap<>();
    private static final TreeSet<String> NAMED = new TreeSet<>();

    private Document() {
    }

    /** From here on the checks are for the sentence of that part ("3", "Promise 8") that has the words. */
    static void sentence(String part, String words) {
        Checks.part(part + ": " + words);
        boolean isThere = false;
        for (String sentence : sentencesOf(part)) {
            if (sentence.contains(words)) {
                isThere = true;
                NAMED.add(part + ": " + sentence);
            }
        }
        Checks.due("the document says so", isThere, true);
    }

    /** A sentence that names no case of its own. */
    static void onlyTells(String part, String words) {
        sentence(part, words);
    }

    static void allAreNamed(String... parts) {
        for (String part : parts) {
            Checks.part("part " + part);
            Checks.due("there are sentences", sentencesOf(part).isEmpty(), false);
            for (String sentence : sentencesOf(part)) {
                Checks.due("a test is for: " + sentence, NAMED.contains(part + ": " + sentence), true);
            }
        }
    }

    private static List<String> sentencesOf(String part) {
        if (SENTENCES.isEmpty()) {
            read();
        }
        return SENTENCES.getOrDefault(part, List.of());
    }

    private static void read() {
        String part = "";
        for (String line : linesOfTheFile()) {
            String next = partThatBegins(line);
            if (next != null) {
                part = next;
            } else {
                addSentences(part, withoutHead(line.trim()));
            }
        }
    }

    private static List<String> linesOfTheFile() {
        try {
            return Files.readAllLines(PLACE, StandardCharsets.UTF_8);
        } catch (IOException e) {
            throw new UncheckedIOException(e);
        }
    }

    private static String partThatBegins(String line) {
        if (line.startsWith("== ")) {
            return line.substring(3, 4);
        }
        if (!line.startsWith("## ")) {
            return null;
        }
        return line.startsWith("## Promise ") ? line.substring(3, line.indexOf(':')) : line.substring(3);
    }

    /** A promise begins with the head of its method, which FaceTest looks at. */
    private static String withoutHead(String line) {
        int end = line.indexOf("`: ");
        return line.startsWith("`") && end >= 0 ? line.substring(end + 3) : line;
    }

    /** The arguments are told in lines of their own; what they are held to stands in the Throws behind them. */
    private static void addSentences(String part, String line) {
        boolean isFormOnly = line.isEmpty() || line.startsWith("```") || line.startsWith("- `")
                || line.startsWith("Ahead of the calls");
        if (!isFormOnly) {
            SENTENCES.computeIfAbsent(part, p -> new ArrayList<>()).addAll(List.of(line.split("(?<=\\.) (?=[A-Z])")));
        }
    }
}
