import java.io.IOException;
import java.nio.file.Files;
import java.nio.file.Path;
import java.util.ArrayList;
import java.util.List;
import java.util.Set;
import java.util.TreeSet;
import java.util.regex.Matcher;
import java.util.regex.Pattern;

/** Rules of LANGUAGE.md that the text of the class shows; the rest of them is for the reader. */
public final class LanguageTest {
    private static final Path SOURCE = Path.of("src/main/java/TripleSigns.java");

    // What the class uses of the library; another name is looked up in LANGUAGE.md and added here.
    private static final Set<String> LIBRARY_CALLS = Set.of(
            "Arrays.fill", "Integer.compare", "System.arraycopy");
    private static final Set<String> TYPES = Set.of("TripleSigns", "Layout", "State", "Script", "String",
            "Arrays", "Integer", "System", "IndexOutOfBoundsException", "IllegalArgumentException",
            "IllegalStateException");
    private static final String[] FORBIDDEN = {
        "\\bsynchronized\\b", "\\bassert\\b", "\\bfinally\\b", "\\btry\\b", "\\bcatch\\b", "\\bvolatile\\b",
        "->", "::", "\\bstatic\\s*\\{", "\\bpackage\\b", "\\bprotected\\b", "\\bthis\\b", "\\bObject\\b",
        "@", "\\bnative\\b", "\\w+Exact\\b", "\\bdouble\\b", "\\bfloat\\b", "\\bvar\\b", "\\bwhile \\(true\\)",
        "\\bequals\\b", "\\bhashCode\\b", "\\btoString\\b",
    };

    public static void main(String[] args) throws IOException {
        String text = Files.readString(SOURCE);
        boolean ascii = text.chars().allMatch(c -> c < 127);
        Check.due("signs 0 to 126 alone", ascii, true);
        Check.due("texts joined by +", Pattern.compile("\"\\s*\\+|\\+\\s*\"").matcher(text).find(), false);
        String code = text.replaceAll("(?s)/\\*.*?\\*/", "").replaceAll("//[^\n]*", "")
                .replaceAll("\"[^\"\n]*\"", "\"\"").replaceAll("'.'", "0");
        for (String pattern : FORBIDDEN) {
            Check.due(pattern, Pattern.compile(pattern).matcher(code).find(), false);
        }
        imports(code);
        names(code);
        statics(code);
        methods(code);
        Check.end("LanguageTest");
    }

    private static List<String> all(String pattern, String code) {
        List<String> found = new ArrayList<>();
        Matcher matcher = Pattern.compile(pattern).matcher(code);
        while (matcher.find()) {
            found.add(matcher.group(1));
        }
        return found;
    }

    private static void imports(String code) {
        for (String name : all("import ([^;]+);", code)) {
            Check.due("import " + name, name.equals("java.util.Arrays"), true);
        }
    }

    private static void names(String code) {
        Set<String> calls = new TreeSet<>(all("\\b((?:Arrays|Integer|System|Math|Long|List)\\.\\w+)", code));
        calls.removeAll(LIBRARY_CALLS);
        Check.due("other calls of the library: " + calls, calls.isEmpty(), true);
        Set<String> types = new TreeSet<>(all("\\b([A-Z]\\w*[a-z]\\w*)\\b", code));
        types.removeAll(TYPES);
        Check.due("other types: " + types, types.isEmpty(), true);
    }

    private static void statics(String code) {
        for (String field : all("(?m)^(\\s*[\\w ]*\\bstatic [^(\n]*[=;][^\n]*)$", code)) {
            Check.due("static final: " + field.trim(), field.contains(" final "), true);
        }
    }

    private static void methods(String code) {
        String[] lines = code.split("\n");
        int start = -1;
        String indent = "";
        int found = 0;
        for (int l = 0; l < lines.length; l++) {
            String line = lines[l];
            Matcher head = Pattern.compile("^( +)(?:public |private |static |final )+[\\w\\[\\]<> ]*\\(").matcher(line);
            if (start < 0 && head.find() && !line.contains("=")) {
                start = l;
                indent = head.group(1);
                found++;
                String shape = line.substring(line.indexOf('('));
                long commas = shape.chars().filter(c -> c == ',').count();
                Check.due("parameters at line: " + line.trim(), commas < 7, true);
            } else if (start >= 0 && line.equals(indent + "}")) {
                Check.due("length of the method: " + lines[start].trim(), l - start + 1 <= 60, true);
                start = -1;
            }
        }
        Check.due("methods are seen", found > 80, true);
    }
}
