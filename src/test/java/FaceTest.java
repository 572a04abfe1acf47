import java.io.IOException;
import java.lang.reflect.Constructor;
import java.lang.reflect.Field;
import java.lang.reflect.Method;
import java.lang.reflect.Modifier;
import java.nio.charset.StandardCharsets;
import java.nio.file.Files;
import java.nio.file.Path;
import java.util.ArrayList;
import java.util.HashSet;
import java.util.List;
import java.util.Set;
import java.util.TreeSet;
import java.util.regex.Matcher;
import java.util.regex.Pattern;

/** The face is the document's, and the text keeps to what of LANGUAGE.md can be told by looking. */
public final class FaceTest {
    private static final Path SOURCE = Path.of("src/main/java/CavershamShift.java");
    private static final Path DOCUMENT = Path.of("../shared/DOC.md");
    private static final int LONGEST_METHOD = 60;
    private static final String[] NOT_LET = {"->", "::", "\\bsynchronized\\b", "\\bassert\\b", "\\bfinally\\b",
        "\\bcatch\\b", "\\binstanceof\\b", "\\w+Exact\\(", "\\bMath\\.(?!(abs|min|max)\\()", "\\bSystem\\b",
        "\\bString\\.", "\\+ \"", "\" \\+", "\\bvar\\b", "\\bprotected\\b", "\\bstatic \\{", "\\bfloat\\b",
        "for \\([^;)]*:", "import (?!java\\.util\\.(ArrayList|Arrays);)"};

    private FaceTest() {
    }

    public static void main(String[] args) throws IOException {
        Checks.part("the face");
        members();
        Checks.part("LANGUAGE.md");
        String text = Files.readString(SOURCE, StandardCharsets.UTF_8);
        noForbiddenWords(text.replaceAll("(?s)/\\*.*?\\*/|//[^\n]*", ""));
        Checks.due("signs of the text", text.chars().allMatch(c -> c == '\n' || c >= 32 && c < 127), true);
        shortMethods(text);
        Checks.end("FaceTest");
    }

    private static void members() throws IOException {
        Class<?> face = CavershamShift.class;
        Checks.due("modifiers", face.getModifiers(), Modifier.PUBLIC | Modifier.FINAL);
        Checks.due("interfaces", face.getInterfaces().length, 0);
        Set<String> open = new TreeSet<>();
        Set<String> names = new HashSet<>();
        for (Method method : face.getDeclaredMethods()) {
            if (!Modifier.isPrivate(method.getModifiers()) && !method.isSynthetic()) {
                open.add(lineOf(method));
                names.add(method.getName());
            }
        }
        for (Constructor<?> made : face.getDeclaredConstructors()) {
            open.add(Modifier.toString(made.getModifiers()) + " " + made.getName() + "/" + made.getParameterCount());
        }
        for (Field field : face.getDeclaredFields()) {
            Checks.due(field.getName() + " is private", Modifier.isPrivate(field.getModifiers()), true);
        }
        Checks.due("open members", String.join("\n", open), String.join("\n", documented()));
        otherNames(face, names);
    }

    private static String lineOf(Method method) {
        List<String> types = new ArrayList<>();
        for (Class<?> type : method.getParameterTypes()) {
            types.add(type.getSimpleName());
        }
        Set<String> thrown = new TreeSet<>();
        for (Class<?> type : method.getExceptionTypes()) {
            thrown.add(type.getSimpleName());
        }
        return Modifier.toString(method.getModifiers()) + " " + method.getReturnType().getSimpleName() + " "
                + method.getName() + types + thrown;
    }

    /** The lines of the document's "public face", written as lineOf writes them. */
    private static Set<String> documented() throws IOException {
        String text = Files.readString(DOCUMENT, StandardCharsets.UTF_8);
        String block = text.substring(text.indexOf("```java"), text.indexOf("## Terms"));
        Set<String> lines = new TreeSet<>();
        lines.add("public CavershamShift/0");
        Matcher line = Pattern.compile("public (\\w+) (\\w+)\\(([^)]*)\\)(?: throws ([^;]*))?;").matcher(block);
        while (line.find()) {
            List<String> types = new ArrayList<>();
            for (String argument : line.group(3).split(", ")) {
                if (!argument.isEmpty()) {
                    types.add(argument.substring(0, argument.indexOf(' ')));
                }
            }
            Set<String> thrown = line.group(4) == null ? new TreeSet<>() : new TreeSet<>(List.of(line.group(4).split(", ")));
            lines.add("public " + line.group(1) + " " + line.group(2) + types + thrown);
        }
        return lines;
    }

    private static void otherNames(Class<?> face, Set<String> names) {
        List<Class<?>> inside = new ArrayList<>(List.of(face.getDeclaredClasses()));
        Checks.due("classes", inside.size() <= 11, true);
        inside.add(face);
        for (Class<?> part : inside) {
            int fields = 0;
            for (Method method : part.getDeclaredMethods()) {
                boolean isFace = part == face && Modifier.isPublic(method.getModifiers());
                Checks.due(part.getSimpleName() + "." + method.getName() + " has a name of its own",
                        isFace || !names.contains(method.getName()), true);
                Checks.due(method.getName() + " takes seven at most", method.getParameterCount() <= 7, true);
            }
            for (Field field : part.getDeclaredFields()) {
                boolean isStatic = Modifier.isStatic(field.getModifiers());
                fields += isStatic ? 0 : 1;
                Checks.due(field.getName() + " is no static state", !isStatic || Modifier.isFinal(field.getModifiers()), true);
            }
            Checks.due("fields of " + part.getSimpleName(), fields <= 20, true);
            Checks.due(part.getSimpleName() + " is static", part == face || Modifier.isStatic(part.getModifiers()), true);
        }
    }

    private static void noForbiddenWords(String code) {
        for (String word : NOT_LET) {
            Matcher found = Pattern.compile(word).matcher(code);
            Checks.due("the text has " + word, found.find() ? "at " + found.start() : "no", "no");
        }
    }

    /** A method ends with the brace that stands as far in as its head. */
    private static void shortMethods(String text) {
        String[] lines = text.split("\n");
        Pattern head = Pattern.compile("^( {4}| {8})(?!return|if|for|switch|else|throw|while)\\w[^=;]*\\(.*");
        for (int i = 0; i < lines.length; i++) {
            Matcher found = head.matcher(lines[i]);
            if (found.matches()) {
                int end = i;
                while (end < lines.length - 1 && !lines[end].equals(found.group(1) + "}")) {
                    end++;
                }
                Checks.due("lines of " + lines[i].trim(), end - i < LONGEST_METHOD, true);
            }
        }
    }
}
