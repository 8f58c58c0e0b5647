import java.io.IOException;
import java.nio.file.Files;
import java.nio.file.Path;
import java.util.ArrayList;
import java.util.Arrays;
import java.util.List;

/** The words of DOC.md, and which of them a test has quoted. */
final class Doc {
    private static final Path FILE = Path.of("../shared/DOC.md");
    private static final String FIRST = "## Description";
    private static final String LAST = "## Not promised";

    // They tell of the document alone.
    private static final List<String> FRAME = List.of("The constants:",
            "The constructor and the methods follow, a promise each: the signature, then what it does.");

    private final List<String> lines;
    private final boolean[][] quoted;
    // The promise in whose section a line stands; 0 in front of the first one.
    private final int[] promises;

    Doc() throws IOException {
        lines = Files.readAllLines(FILE);
        quoted = new boolean[lines.size()][];
        promises = new int[lines.size()];
        int promise = 0;
        for (int l = 0; l < lines.size(); l++) {
            if (lines.get(l).startsWith("## Promise ")) {
                promise++;
            }
            promises[l] = promise;
            quoted[l] = new boolean[lines.get(l).length()];
        }
    }

    /** Tells whether the words stand in the section of the promise or in front of the first one. */
    boolean quote(int promise, String words) {
        return quoteIn(promise, words) || quoteIn(0, words);
    }

    private boolean quoteIn(int promise, String words) {
        boolean found = false;
        for (int l = 0; l < lines.size(); l++) {
            int at = promises[l] == promise ? lines.get(l).indexOf(words) : -1;
            if (at >= 0) {
                Arrays.fill(quoted[l], at, at + words.length(), true);
                found = true;
            }
        }
        return found;
    }

    /** The words of the Description and the promises that no test has quoted. */
    List<String> unquoted() {
        List<String> found = new ArrayList<>();
        for (int l = lines.indexOf(FIRST); l < lines.indexOf(LAST); l++) {
            if (isSentence(lines.get(l))) {
                String rest = unquotedIn(l);
                if (rest.chars().anyMatch(Character::isLetterOrDigit)) {
                    found.add("promise " + promises[l] + ": " + rest.trim());
                }
            }
        }
        return found;
    }

    private String unquotedIn(int line) {
        StringBuilder rest = new StringBuilder();
        for (int c = 0; c < quoted[line].length; c++) {
            rest.append(quoted[line][c] ? ' ' : lines.get(line).charAt(c));
        }
        return rest.toString();
    }

    /** A line that is no heading, no signature, and tells of the class. */
    private static boolean isSentence(String line) {
        boolean heading = line.startsWith("#") || line.startsWith("---- ")
                || line.equals(line.toUpperCase());
        return !heading && !line.startsWith("`") && !FRAME.contains(line);
    }
}
