import java.io.IOException;
import java.lang.reflect.InvocationTargetException;
import java.lang.reflect.Method;
import java.lang.reflect.Modifier;
import java.nio.file.Files;
import java.nio.file.Path;
import java.util.Arrays;
import java.util.List;
import java.util.regex.Matcher;
import java.util.regex.Pattern;
import java.util.stream.Stream;

/** README.md tells true answers, and names every method of the class and every file of its tests. */
public final class ReadmeTest {
    private static final Path README = Path.of("README.md");
    private static final Path TESTS = Path.of("src/test/java");
    private static final String FIRST = "TripleSigns signs = new TripleSigns();";
    private static final Pattern CALL = Pattern.compile("signs\\.(\\w+)\\(([^)]*)\\); +// ([^:]+)(?:: .*)?");
    private static final int FEWEST_CALLS = 10;

    private ReadmeTest() {
    }

    public static void main(String[] args) throws IOException, IllegalAccessException {
        List<String> lines = Files.readAllLines(README);
        example(lines);
        String text = String.join("\n", lines);
        for (Method method : TripleSigns.class.getDeclaredMethods()) {
            if (Modifier.isPublic(method.getModifiers())) {
                Check.due("it names " + method.getName(), text.contains("`" + method.getName() + "`"), true);
            }
        }
        for (String words : List.of("`new TripleSigns()`", "NONE", "(-100)", "512 calls", ".ci/run",
                "`IndexOutOfBoundsException`", "`IllegalArgumentException`", "`IllegalStateException`")) {
            Check.due("it says " + words, text.contains(words), true);
        }
        try (Stream<Path> files = Files.list(TESTS)) {
            for (Path file : files.toList()) {
                String name = file.getFileName().toString().replace(".java", "");
                Check.due("it names " + name, text.contains("`" + name + "`"), true);
            }
        }
        stars(text);
        Check.end("ReadmeTest");
    }

    /** Makes the calls of the example, one after the other, on one object. */
    private static void example(List<String> lines) throws IllegalAccessException {
        int from = lines.indexOf("```java") + 1;
        int to = lines.lastIndexOf("```");
        if (from < 1 || to - from < FEWEST_CALLS) {
            Check.due("there is an example", false, true);
            return;
        }
        Check.due("it begins with a new object", lines.get(from).equals(FIRST), true);
        TripleSigns signs = new TripleSigns();
        for (String line : lines.subList(from + 1, to)) {
            Matcher call = CALL.matcher(line);
            Check.due("a call and its answer: " + line, call.matches(), true);
            if (call.matches()) {
                String answer = answer(signs, call.group(1), call.group(2));
                Check.due(line + " (it is " + answer + ")", answer.equals(call.group(3).trim()), true);
            }
        }
    }

    private static String answer(TripleSigns signs, String name, String arguments) throws IllegalAccessException {
        Object[] values = Arrays.stream(arguments.split(", *")).filter(word -> !word.isEmpty())
                .map(ReadmeTest::value).toArray();
        for (Method method : TripleSigns.class.getDeclaredMethods()) {
            if (method.getName().equals(name) && method.getParameterCount() == values.length) {
                try {
                    String answer = method.invoke(signs, values).toString();
                    return answer.equals("" + TripleSigns.NONE) ? "NONE" : answer;
                } catch (InvocationTargetException e) {
                    return "throws " + e.getCause().getClass().getSimpleName();
                }
            }
        }
        return "no such method";
    }

    private static Object value(String word) {
        if (word.startsWith("'")) {
            return (int) word.charAt(1);
        }
        if (word.equals("true") || word.equals("false")) {
            return word.equals("true");
        }
        return Integer.parseInt(word);
    }

    /** The methods with a star are those that DOC.md calls undoable. */
    private static void stars(String text) throws IOException {
        String doc = Files.readString(Path.of("../shared/DOC.md"));
        String[] promises = doc.split("\n## Promise \\d+: ");
        for (int p = 2; p < promises.length; p++) {
            String name = promises[p].substring(0, promises[p].indexOf('\n')).trim();
            Check.due("a star behind " + name, text.contains("`" + name + "`\\*"), promises[p].contains("Undoable"));
        }
        Check.due("promises are seen", promises.length, 32);
    }
}
