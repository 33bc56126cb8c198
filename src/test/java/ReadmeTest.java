import java.io.File;
import java.io.IOException;
import java.lang.reflect.InvocationTargetException;
import java.lang.reflect.Method;
import java.nio.file.Files;
import java.nio.file.Path;
import java.util.ArrayList;
import java.util.List;
import java.util.regex.Matcher;
import java.util.regex.Pattern;

/** What README.md says is so: its example, the document's words in it, and the tests and files that it names. */
public final class ReadmeTest {
    private static final Path README = Path.of("README.md");
    private static final Path DOCUMENT = Path.of("../shared/DOC.md");
    private static final Pattern EXAMPLE_CALL = Pattern.compile("game\\.(\\w+)\\((.*?)\\);\\s+// (throws \\w+|-?[0-9.]+)(:.*)?");
    private static final String EXAMPLE_OBJECT = "RustTiles game = new RustTiles();";
    private static final int PROMISES = 28;

    private static final Checks checks = new Checks("ReadmeTest");

    public static void main(String[] args) throws IOException {
        String readme = Files.readString(README);
        String document = Files.readString(DOCUMENT);
        example(readme);
        sentences(readme, document);
        calls(readme, document);
        tests(readme);
        checks.end();
    }

    private static String inOneLine(String text) {
        return text.replaceAll("\\s+", " ").trim();
    }

    private static void dueIn(String what, String part, String whole) {
        checks.due(what + ": " + part, 1, whole.contains(part) ? 1 : 0);
    }

    // ---- the example

    private static void example(String readme) {
        Matcher block = Pattern.compile("```java\n(.*?)```", Pattern.DOTALL).matcher(readme);
        checks.due("an example", 1, block.find() ? 1 : 0);
        String[] lines = block.group(1).split("\n");
        checks.due("its first line", EXAMPLE_OBJECT, lines[0]);
        checks.due("its calls", 1, lines.length > 10 ? 1 : 0);
        RustTiles game = new RustTiles();
        for (int i = 1; i < lines.length; i++) {
            Matcher call = EXAMPLE_CALL.matcher(lines[i]);
            boolean isCall = call.matches();
            checks.due("a call with its answer: " + lines[i], 1, isCall ? 1 : 0);
            if (isCall) {
                checks.due(lines[i], call.group(3), answerOf(game, call.group(1), numbersOf(call.group(2))));
            }
        }
    }

    private static Object[] numbersOf(String arguments) {
        List<Object> numbers = new ArrayList<>();
        for (String argument : arguments.isEmpty() ? new String[0] : arguments.split(", ")) {
            numbers.add(argument.startsWith("'") ? argument.charAt(1) : Integer.parseInt(argument));
        }
        return numbers.stream().map(number -> number instanceof Character ? (int) (Character) number : number).toArray();
    }

    private static String answerOf(RustTiles game, String name, Object[] numbers) {
        for (Method method : RustTiles.class.getMethods()) {
            if (method.getName().equals(name) && method.getParameterCount() == numbers.length) {
                try {
                    return method.invoke(game, numbers).toString();
                } catch (InvocationTargetException e) {
                    return "throws " + e.getCause().getClass().getSimpleName();
                } catch (IllegalAccessException e) {
                    return "no public call";
                }
            }
        }
        return "no such call";
    }

    // ---- the document's words

    private static void sentences(String readme, String document) {
        String whole = inOneLine(document);
        int found = 0;
        for (String part : readme.split("\n\n")) {
            if (part.startsWith(">")) {
                dueIn("stands in the document", inOneLine(part.replaceAll("(?m)^>", "")), whole);
                found++;
            }
        }
        checks.due("sentences of the document", 1, found >= 8 ? 1 : 0);
    }

    /** The page tells each promise whole, and in order, and nothing between them but headings. */
    private static void calls(String readme, String document) {
        Matcher section = Pattern.compile("\n## The calls\n(.*?)\n## ", Pattern.DOTALL).matcher(readme);
        checks.due("the calls", 1, section.find() ? 1 : 0);
        String told = inOneLine(section.group(1).replaceAll("(?m)^### .*$", ""));
        StringBuilder wanted = new StringBuilder();
        int promises = 0;
        for (String part : document.split("(?m)^## ")) {
            if (part.startsWith("Promise ")) {
                promises++;
                String entry = asEntry(part);
                dueIn("promise " + promises + " is told", entry, told);
                wanted.append(entry).append(' ');
            }
        }
        checks.due("promises", PROMISES, promises);
        checks.due("all that is told of the calls", wanted.toString().trim(), told);
    }

    private static String asEntry(String promise) {
        StringBuilder entry = new StringBuilder();
        String[] lines = promise.split("\n");
        for (int i = 1; i < lines.length; i++) {
            if (!lines[i].isBlank()) {
                entry.append(lines[i].startsWith("- ") ? " " : " - ").append(lines[i]);
            }
        }
        return inOneLine(entry.toString());
    }

    // ---- tests and files

    private static void tests(String readme) {
        String[] names = new File("src/test/java").list();
        checks.due("there are tests", 1, names == null ? 0 : 1);
        for (String name : names == null ? new String[0] : names) {
            if (name.endsWith("Test.java")) {
                dueIn("a test is told", "`" + name.replace(".java", "") + "`", readme);
            }
        }
        Matcher named = Pattern.compile("`([A-Z][A-Za-z]+)`").matcher(readme.substring(readme.indexOf("\n## Tests")));
        while (named.find()) {
            boolean stands = Files.exists(Path.of("src/test/java", named.group(1) + ".java"));
            checks.due("a class of the tests: " + named.group(1), 1, stands ? 1 : 0);
        }
        Matcher paths = Pattern.compile("`((?:src|\\.\\.)/[A-Za-z./]+)`").matcher(readme);
        while (paths.find()) {
            checks.due("a path: " + paths.group(1), 1, Files.exists(Path.of(paths.group(1))) ? 1 : 0);
        }
        checks.due("the one command", 1, Files.isExecutable(Path.of(".ci/run")) ? 1 : 0);
        dueIn("the one command is told", "```sh\n.ci/run\n```", readme);
    }
}
