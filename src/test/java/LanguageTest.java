import java.io.IOException;
import java.lang.reflect.Field;
import java.lang.reflect.Modifier;
import java.nio.file.Files;
import java.nio.file.Path;
import java.util.ArrayList;
import java.util.List;
import java.util.Map;
import java.util.Set;
import java.util.TreeMap;
import java.util.TreeSet;
import java.util.regex.Matcher;
import java.util.regex.Pattern;

/** Rules of LANGUAGE.md that the text of the class shows; the rest of them is for the reader. */
public final class LanguageTest {
    private static final Path SOURCE = Path.of("src/main/java/TripleSigns.java");

    // What the class uses of the library; another name is looked up in LANGUAGE.md and added here.
    private static final Set<String> LIBRARY_CALLS = Set.of(
            "Arrays.fill", "Integer.compare", "System.arraycopy");
    private static final Set<String> TYPES = Set.of("TripleSigns", "Layout", "State", "Script", "String",
            "Arrays", "Integer", "System", "IndexOutOfBoundsException", "IllegalArgumentException",
            "IllegalStateException");
    private static final String[] FORBIDDEN = {
        "\\bsynchronized\\b", "\\bassert\\b", "\\bfinally\\b", "\\btry\\b", "\\bcatch\\b", "\\bvolatile\\b",
        "->", "::", "\\bstatic\\s*\\{", "\\bpackage\\b", "\\bprotected\\b", "\\bthis\\b", "\\bObject\\b",
        "@", "\\bnative\\b", "\\w+Exact\\b", "\\bdouble\\b", "\\bfloat\\b", "\\bvar\\b", "\\bwhile \\(true\\)",
        "\\bequals\\b", "\\bhashCode\\b", "\\btoString\\b",
        "\\bclone\\b", "\\bsubstring\\b", "\\btoCharArray\\b",
    };
    private static final int MOST_LINES = 60;
    private static final int MOST_PARAMETERS = 7;
    private static final int MOST_CALLS_DEEP = 8;
    private static final int MOST_CLASSES = 12;
    private static final int MOST_FIELDS = 20;
    // Its depth is an argument, which it compares with the document's limit.
    private static final Set<String> RECURSIONS = Set.of("waysFrom");

    public static void main(String[] args) throws IOException {
        String text = Files.readString(SOURCE);
        boolean ascii = text.chars().allMatch(c -> c < 127);
        Check.due("signs 0 to 126 alone", ascii, true);
        Check.due("texts joined by +", Pattern.compile("\"\\s*\\+|\\+\\s*\"").matcher(text).find(), false);
        String code = text.replaceAll("(?s)/\\*.*?\\*/", "").replaceAll("//[^\n]*", "")
                .replaceAll("\"[^\"\n]*\"", "\"\"").replaceAll("'.'", "0");
        for (String pattern : FORBIDDEN) {
            Check.due(pattern, Pattern.compile(pattern).matcher(code).find(), false);
        }
        imports(code);
        names(code);
        statics(code);
        makings(code);
        masks(code);
        classes();
        calls(methods(code));
        Check.end("LanguageTest");
    }

    private static List<String> all(String pattern, String code) {
        List<String> found = new ArrayList<>();
        Matcher matcher = Pattern.compile(pattern).matcher(code);
        while (matcher.find()) {
            found.add(matcher.group(1));
        }
        return found;
    }

    private static void imports(String code) {
        for (String name : all("import ([^;]+);", code)) {
            Check.due("import " + name, name.equals("java.util.Arrays"), true);
        }
    }

    private static void names(String code) {
        Set<String> calls = new TreeSet<>(all("\\b((?:Arrays|Integer|System|Math|Long|List)\\.\\w+)", code));
        calls.removeAll(LIBRARY_CALLS);
        Check.due("other calls of the library: " + calls, calls.isEmpty(), true);
        Set<String> types = new TreeSet<>(all("\\b([A-Z]\\w*[a-z]\\w*)\\b", code));
        types.removeAll(TYPES);
        Check.due("other types: " + types, types.isEmpty(), true);
    }

    private static void statics(String code) {
        for (String field : all("(?m)^(\\s*[\\w ]*\\bstatic [^(\n]*[=;][^\n]*)$", code)) {
            Check.due("static final: " + field.trim(), field.contains(" final "), true);
        }
    }

    /** Rule 12: rows are made with the object that holds them, and no call but a refused one makes any. */
    private static void makings(String code) {
        for (String line : all("(?m)^ *(.*\\bnew .*)$", code)) {
            boolean made = line.startsWith("throw new ") || line.startsWith("private final ")
                    || line.equals("saved[s] = new State();");
            Check.due("makes something in a call: " + line, made, true);
        }
    }

    /** Rule 10: single bars join the bits of masks alone, and booleans are joined by two. */
    private static void masks(String code) {
        for (String line : all("(?m)^ *(.*[^|&][|&^](?![|&]).*)$", code)) {
            boolean bits = line.startsWith("mask |= ") || line.startsWith("masks[relations] |= ")
                    || line.contains("(masks[r] & bit) != 0L");
            Check.due("joins something else: " + line, bits, true);
        }
    }

    /** Rule 11: so many classes, and so many fields of a class beside its constants. */
    private static void classes() {
        List<Class<?>> classes = new ArrayList<>(List.of(TripleSigns.class.getDeclaredClasses()));
        classes.add(TripleSigns.class);
        Check.due("number of classes", classes.size() <= MOST_CLASSES, true);
        for (Class<?> one : classes) {
            int fields = 0;
            for (Field field : one.getDeclaredFields()) {
                fields += Modifier.isStatic(field.getModifiers()) ? 0 : 1;
            }
            Check.due("number of fields of " + one.getName(), fields <= MOST_FIELDS, true);
            Check.due("classes inside " + one.getName(),
                    one == TripleSigns.class || one.getDeclaredClasses().length == 0, true);
        }
    }

    /** The methods' names, with the lines of their bodies joined. */
    private static Map<String, String> methods(String code) {
        Map<String, String> bodies = new TreeMap<>();
        String[] lines = code.split("\n");
        int start = -1;
        String indent = "";
        String name = "";
        for (int l = 0; l < lines.length; l++) {
            String line = lines[l];
            Matcher head = Pattern.compile("^( +)(?:(?:public|private|static|final) )+[\\w\\[\\]<> ]*?(\\w+)\\(")
                    .matcher(line);
            if (start < 0 && head.find() && !line.contains("=")) {
                start = l;
                indent = head.group(1);
                name = head.group(2);
                long commas = line.chars().filter(c -> c == ',').count();
                Check.due("parameters at line: " + line.trim(), commas < MOST_PARAMETERS, true);
            } else if (start >= 0 && line.equals(indent + "}")) {
                Check.due("length of the method " + name, l - start + 1 <= MOST_LINES, true);
                String body = String.join(" ", List.of(lines).subList(start + 1, l));
                Check.due("another method is named " + name, bodies.put(name, body) == null, true);
                start = -1;
            }
        }
        Check.due("methods are seen", bodies.size() > 80, true);
        return bodies;
    }

    /** Rules 8 and 11: no methods call one another in a ring, and no call stands too deep. */
    private static void calls(Map<String, String> bodies) {
        Map<String, Integer> depths = new TreeMap<>();
        for (String name : bodies.keySet()) {
            int depth = depth(name, bodies, depths, 0);
            Check.due("calls stand " + depth + " deep from " + name, depth <= MOST_CALLS_DEEP, true);
            Check.due(name + " calls itself", called(name, bodies).contains(name), RECURSIONS.contains(name));
        }
        Check.due("deep calls are seen", depths.get("run") >= 6, true);
    }

    /** How many methods stand open at most from this one on, itself included; a ring counts as very many. */
    private static int depth(String name, Map<String, String> bodies, Map<String, Integer> depths, int above) {
        if (above > MOST_CALLS_DEEP) {
            return 1000;
        }
        if (!depths.containsKey(name)) {
            int deepest = 0;
            for (String called : called(name, bodies)) {
                if (!called.equals(name)) {
                    deepest = Math.max(deepest, depth(called, bodies, depths, above + 1));
                }
            }
            depths.put(name, deepest + 1);
        }
        return depths.get(name);
    }

    private static Set<String> called(String name, Map<String, String> bodies) {
        Set<String> called = new TreeSet<>(all("\\b(\\w+)\\(", bodies.get(name)));
        called.retainAll(bodies.keySet());
        return called;
    }
}
