import java.io.IOException;
import java.lang.reflect.Method;
import java.lang.reflect.Modifier;
import java.nio.charset.StandardCharsets;
import java.nio.file.Files;
import java.nio.file.Path;
import java.util.ArrayList;
import java.util.List;

/** README.md tells the truth: its example does what it says, and it names each call and each test. */
public final class ReadmeTest {
    private static final Path README = Path.of("README.md");
    private static final Path TESTS = Path.of("src/test/java");
    private static final String BEGIN = "// README.md: from here";
    private static final String END = "// README.md: to here";

    private ReadmeTest() {
    }

    public static void main(String[] args) throws IOException {
        Checks.part("README.md");
        String readme = Files.readString(README, StandardCharsets.UTF_8);
        int from = readme.indexOf("```java\n") + "```java\n".length();
        Checks.due("its example", readme.substring(from, readme.indexOf("```", from)), textOfExample());
        Checks.due("what its example makes", example(), "0: 0 at 0, text sent");
        for (Method call : CavershamShift.class.getDeclaredMethods()) {
            if (Modifier.isPublic(call.getModifiers())) {
                Checks.due("it names " + call.getName(), readme.contains("`" + call.getName() + "`"), true);
            }
        }
        namesEachTest(readme);
        Checks.end("ReadmeTest");
    }

    private static String example() {
        // README.md: from here
        CavershamShift post = new CavershamShift();
        int station = post.station(10, 9, 0, 0, 0, 16777215); // band, power, far, land, tongue, hours
        int monitor = post.monitor(99999);                    // a digit of skill for each tongue
        post.shift(0, 0, station, monitor);                   // hour of the day, set, who hears what
        int talk = post.talk(station, 0, 3, 180, 5, 7);       // hour, topic, words, weight, formulas
        post.pass(1);                                         // the hour is over: heard and sent
        String line = post.tell(talk);                        // "0: 0 at 0, text sent"
        // README.md: to here
        return line;
    }

    private static String textOfExample() throws IOException {
        List<String> lines = Files.readAllLines(TESTS.resolve("ReadmeTest.java"), StandardCharsets.UTF_8);
        List<String> trimmed = new ArrayList<>();
        for (String line : lines) {
            trimmed.add(line.trim());
        }
        return String.join("\n", trimmed.subList(trimmed.indexOf(BEGIN) + 1, trimmed.indexOf(END))) + "\n";
    }

    private static void namesEachTest(String readme) throws IOException {
        try (var files = Files.newDirectoryStream(TESTS, "*Test.java")) {
            for (Path file : files) {
                String name = file.getFileName().toString().replace(".java", "");
                Checks.due("it names " + name, readme.contains("`" + name + "`"), true);
            }
        }
    }
}
