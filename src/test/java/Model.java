import java.util.ArrayDeque;
import java.util.ArrayList;
import java.util.Deque;
import java.util.HashSet;
import java.util.List;
import java.util.Map;
import java.util.Set;
import java.util.TreeMap;
import java.util.TreeSet;
import java.util.regex.Matcher;
import java.util.regex.Pattern;

/**
 * A second reading of DOC.md, as slow and as near to its words as may be: it shares nothing with
 * the class, so that both agree only where they read the document alike.
 */
final class Model {
    static final int NONE = -100;

    private static final List<String> WORDS =
            List.of("plus", "minus", "zero", "drop", "derive", "mirror");
    private static final Pattern SCRIPT = Pattern.compile(
            "( *((plus|minus|zero|drop) +[a-h][a-h][a-h]|derive|mirror) *;)* *");

    /** A triple with a sign; it has a relation if it is derived. */
    private static final class Known {
        int sign;
        boolean given;
        int relation = NONE;
        int step = NONE;

        Known copy() {
            Known copy = new Known();
            copy.sign = sign;
            copy.given = given;
            copy.relation = relation;
            copy.step = step;
            return copy;
        }
    }

    private static final class Snapshot {
        int n;
        boolean uniform;
        int contradiction;
        Map<String, Known> known = new TreeMap<>();
        Map<Integer, int[]> at = new TreeMap<>();
    }

    private int n = 5;
    private boolean uniform = false;
    private int contradiction = NONE;
    // By the names of the points: "abc" comes before "abd", so that the order is lexicographic.
    private Map<String, Known> known = new TreeMap<>();
    private Map<Integer, int[]> at = new TreeMap<>();
    private String script = "";
    private Deque<Snapshot> stack = new ArrayDeque<>();

    private List<String> triples = triplesOf(5);
    private List<int[]> relations = relationsOf(5);

    // ---- what the tests ask about how far they came

    int derivedCount() {
        int found = 0;
        for (Known one : known.values()) {
            found += one.given ? 0 : 1;
        }
        return found;
    }

    int scriptLength() {
        return script.length();
    }

    int points() {
        return n;
    }

    int unknownCount() {
        return triples.size() - known.size();
    }

    // ---- numbering

    private static String key(int i, int j, int k) {
        TreeSet<Character> names = new TreeSet<>(
                List.of((char) ('a' + i), (char) ('a' + j), (char) ('a' + k)));
        StringBuilder text = new StringBuilder();
        for (char name : names) {
            text.append(name);
        }
        return text.toString();
    }

    private static List<String> triplesOf(int n) {
        List<String> list = new ArrayList<>();
        for (int i = 0; i < n; i++) {
            for (int j = i + 1; j < n; j++) {
                for (int k = j + 1; k < n; k++) {
                    list.add(key(i, j, k));
                }
            }
        }
        return list;
    }

    private static List<int[]> relationsOf(int n) {
        List<int[]> list = new ArrayList<>();
        for (int a = 0; a < n; a++) {
            for (int mask = 0; mask < 1 << n; mask++) {
                if (Integer.bitCount(mask) == 4 && (mask >> a & 1) == 0) {
                    list.add(new int[] {a, mask});
                }
            }
        }
        List<int[]> out = new ArrayList<>();
        for (int[] one : list) {
            int[] relation = new int[5];
            relation[0] = one[0];
            int size = 1;
            for (int p = 0; p < n; p++) {
                if ((one[1] >> p & 1) == 1) {
                    relation[size++] = p;
                }
            }
            out.add(relation);
        }
        out.sort((x, y) -> {
            for (int m = 0; m < 5; m++) {
                if (x[m] != y[m]) {
                    return x[m] - y[m];
                }
            }
            return 0;
        });
        return out;
    }

    private static int parity(int i, int j, int k) {
        return Integer.signum((j - i) * (k - i) * (k - j));
    }

    private void point(int p) {
        if (p < 0 || p >= n) {
            throw new IndexOutOfBoundsException();
        }
    }

    private static void argument(boolean fine) {
        if (!fine) {
            throw new IllegalArgumentException();
        }
    }

    private static void state(boolean fine) {
        if (!fine) {
            throw new IllegalStateException();
        }
    }

    // ---- state

    private Snapshot snapshot() {
        Snapshot s = new Snapshot();
        s.n = n;
        s.uniform = uniform;
        s.contradiction = contradiction;
        known.forEach((t, one) -> s.known.put(t, one.copy()));
        at.forEach((p, xy) -> s.at.put(p, xy.clone()));
        return s;
    }

    private void save() {
        stack.addLast(snapshot());
        if (stack.size() > 4) {
            stack.removeFirst();
        }
    }

    private int forgetDerived() {
        int before = known.size();
        known.values().removeIf(one -> !one.given);
        contradiction = NONE;
        return before - known.size();
    }

    /** The sign of an ordered triple; null if it is unknown. */
    private Integer s(int i, int j, int k) {
        if (i == j || i == k || j == k) {
            return 0;
        }
        Known one = known.get(key(i, j, k));
        return one == null ? null : Integer.valueOf(one.sign * parity(i, j, k));
    }

    private static int orNone(Integer sign) {
        return sign == null ? NONE : sign;
    }

    // ---- relations

    private static List<String> triplesIn(int[] q) {
        return List.of(key(q[0], q[1], q[2]), key(q[0], q[3], q[4]), key(q[0], q[1], q[3]),
                key(q[0], q[2], q[4]), key(q[0], q[1], q[4]), key(q[0], q[2], q[3]));
    }

    private int unknownIn(int[] q) {
        int found = 0;
        for (String t : triplesIn(q)) {
            found += known.containsKey(t) ? 0 : 1;
        }
        return found;
    }

    private boolean fulfilled(int[] q) {
        int a = q[0];
        int b = q[1];
        int c = q[2];
        int d = q[3];
        int e = q[4];
        List<Integer> products = List.of(s(a, b, c) * s(a, d, e), -s(a, b, d) * s(a, c, e),
                s(a, b, e) * s(a, c, d));
        if (products.equals(List.of(0, 0, 0))) {
            return true;
        }
        return products.contains(1) && products.contains(-1);
    }

    private boolean violated(int[] q) {
        return unknownIn(q) == 0 && !fulfilled(q);
    }

    private Set<String> reasonSet(String triple, Map<String, Set<String>> told) {
        Set<String> done = told.get(triple);
        if (done != null) {
            return done;
        }
        Set<String> set = new HashSet<>();
        Known one = known.get(triple);
        if (one != null && one.given) {
            set.add(triple);
        } else if (one != null) {
            for (String other : triplesIn(relations.get(one.relation))) {
                if (!other.equals(triple)) {
                    set.addAll(reasonSet(other, told));
                }
            }
        }
        told.put(triple, set);
        return set;
    }

    private long mask(Set<String> set) {
        long mask = 0;
        for (int t = 0; t < triples.size(); t++) {
            if (set.contains(triples.get(t))) {
                mask += 1L << t;
            }
        }
        return mask;
    }

    // ---- the face

    int begin(int points) {
        argument(points >= 3 && points <= 8);
        save();
        renumber(points);
        known.clear();
        at.clear();
        contradiction = NONE;
        return triples.size();
    }

    private void renumber(int points) {
        n = points;
        triples = triplesOf(points);
        relations = relationsOf(points);
    }

    int give(int i, int j, int k, int sign) {
        point(i);
        point(j);
        point(k);
        argument(i != j && i != k && j != k && sign >= -1 && sign <= 1);
        int before = orNone(s(i, j, k));
        save();
        give(key(i, j, k), sign * parity(i, j, k));
        return before;
    }

    private void give(String triple, int sign) {
        Known old = known.get(triple);
        if (old != null && old.given && old.sign == sign) {
            return;
        }
        if (old != null) {
            forgetDerived();
        }
        contradiction = NONE;
        Known one = new Known();
        one.sign = sign;
        one.given = true;
        known.put(triple, one);
    }

    int drop(int i, int j, int k) {
        point(i);
        point(j);
        point(k);
        argument(i != j && i != k && j != k);
        Known one = known.get(key(i, j, k));
        state(one != null && one.given);
        int before = s(i, j, k);
        save();
        drop(key(i, j, k));
        return before;
    }

    private void drop(String triple) {
        known.remove(triple);
        forgetDerived();
    }

    boolean setUniform(boolean on) {
        boolean before = uniform;
        save();
        forgetDerived();
        uniform = on;
        return before;
    }

    int derive() {
        save();
        return deriveAll();
    }

    private int deriveAll() {
        contradiction = NONE;
        int before = derivedCount();
        int seen;
        do {
            seen = known.size();
            for (int r = 0; r < relations.size() && contradiction == NONE; r++) {
                look(r);
            }
        } while (seen != known.size() && contradiction == NONE);
        return derivedCount() - before;
    }

    private void look(int r) {
        int[] q = relations.get(r);
        if (violated(q)) {
            contradiction = r;
        }
        if (unknownIn(q) != 1) {
            return;
        }
        for (String triple : triplesIn(q)) {
            if (!known.containsKey(triple)) {
                List<Integer> possible = new ArrayList<>();
                for (int sign : uniform ? new int[] {-1, 1} : new int[] {-1, 0, 1}) {
                    Known trial = new Known();
                    trial.sign = sign;
                    known.put(triple, trial);
                    if (fulfilled(q)) {
                        possible.add(sign);
                    }
                    known.remove(triple);
                }
                if (possible.isEmpty()) {
                    contradiction = r;
                } else if (possible.size() == 1) {
                    Known one = new Known();
                    one.sign = possible.get(0);
                    one.relation = r;
                    known.put(triple, one);
                    one.step = derivedCount();
                }
                return;
            }
        }
    }

    int forget() {
        save();
        return forgetDerived();
    }

    int mirror() {
        save();
        mirrorAll();
        return known.size();
    }

    private void mirrorAll() {
        known.values().forEach(one -> one.sign = -one.sign);
    }

    int turn(int p) {
        point(p);
        save();
        int found = 0;
        for (Map.Entry<String, Known> entry : known.entrySet()) {
            if (entry.getKey().indexOf('a' + p) >= 0) {
                entry.getValue().sign *= -1;
                found++;
            }
        }
        return found;
    }

    int exchange(int i, int j) {
        point(i);
        point(j);
        argument(i != j);
        save();
        forgetDerived();
        Map<String, Known> fresh = new TreeMap<>();
        int[] to = new int[n];
        for (int p = 0; p < n; p++) {
            to[p] = p == i ? j : p == j ? i : p;
        }
        for (int x = 0; x < n; x++) {
            for (int y = x + 1; y < n; y++) {
                for (int z = y + 1; z < n; z++) {
                    Integer sign = s(to[x], to[y], to[z]);
                    if (sign != null) {
                        Known one = new Known();
                        one.given = true;
                        one.sign = sign;
                        fresh.put(key(x, y, z), one);
                    }
                }
            }
        }
        known = fresh;
        int[] first = at.remove(i);
        int[] second = at.remove(j);
        if (first != null) {
            at.put(j, first);
        }
        if (second != null) {
            at.put(i, second);
        }
        return known.size();
    }

    int sign(int i, int j, int k) {
        point(i);
        point(j);
        point(k);
        return orNone(s(i, j, k));
    }

    int triple(int t, int what) {
        if (t < 0 || t >= triples.size()) {
            throw new IndexOutOfBoundsException();
        }
        argument(what >= 0 && what <= 6);
        String triple = triples.get(t);
        Known one = known.get(triple);
        if (what < 3) {
            return triple.charAt(what) - 'a';
        }
        if (one == null) {
            return what == 4 ? 0 : NONE;
        }
        return List.of(one.sign, one.given ? 1 : 2, one.relation, one.step).get(what - 3);
    }

    long reasons(int t) {
        if (t < 0 || t >= triples.size()) {
            throw new IndexOutOfBoundsException();
        }
        return mask(reasonSet(triples.get(t), new TreeMap<>()));
    }

    int count(int what) {
        argument(what >= 0 && what <= 9);
        int complete = 0;
        int violations = 0;
        for (int[] q : relations) {
            complete += unknownIn(q) == 0 ? 1 : 0;
            violations += violated(q) ? 1 : 0;
        }
        return List.of(n, triples.size(), known.size() - derivedCount(), derivedCount(),
                triples.size() - known.size(), relations.size(), complete, violations,
                contradiction, uniform ? 1 : 0).get(what);
    }

    int relation(int r, int what) {
        if (r < 0 || r >= relations.size()) {
            throw new IndexOutOfBoundsException();
        }
        argument(what >= 0 && what <= 6);
        int[] q = relations.get(r);
        if (what < 5) {
            return q[what];
        }
        if (what == 5) {
            return unknownIn(q);
        }
        return unknownIn(q) > 0 ? 0 : fulfilled(q) ? 1 : -1;
    }

    long behind(int r) {
        if (r < 0 || r >= relations.size()) {
            throw new IndexOutOfBoundsException();
        }
        Set<String> all = new HashSet<>();
        for (String t : triplesIn(relations.get(r))) {
            all.addAll(reasonSet(t, new TreeMap<>()));
        }
        return mask(all);
    }

    int completions() {
        List<String> open = new ArrayList<>();
        for (String t : triples) {
            if (!known.containsKey(t)) {
                open.add(t);
            }
        }
        state(open.size() <= 10);
        int ways = 0;
        for (int choice = 0; choice < 1 << open.size(); choice++) {
            for (int o = 0; o < open.size(); o++) {
                Known trial = new Known();
                trial.sign = (choice >> o & 1) == 1 ? 1 : -1;
                known.put(open.get(o), trial);
            }
            boolean fine = true;
            for (int r = 0; r < relations.size() && fine; r++) {
                fine = fulfilled(relations.get(r));
            }
            ways += fine ? 1 : 0;
        }
        open.forEach(known::remove);
        return ways;
    }

    int cocircuit(int i, int j) {
        point(i);
        point(j);
        argument(i != j);
        int sum = 0;
        for (int x = n - 1; x >= 0; x--) {
            Integer sign = s(i, j, x);
            state(sign != null);
            sum = 4 * sum + List.of(2, 0, 1).get(sign + 1);
        }
        return sum;
    }

    boolean isExtreme(int i) {
        point(i);
        for (int j = 0; j < n; j++) {
            if (j == i) {
                continue;
            }
            List<Integer> signs = new ArrayList<>();
            for (int x = 0; x < n; x++) {
                if (x != i && x != j) {
                    signs.add(orNone(s(i, j, x)));
                }
            }
            boolean allZero = signs.stream().allMatch(sign -> sign == 0);
            if (!signs.contains(NONE) && !allZero && !(signs.contains(1) && signs.contains(-1))) {
                return true;
            }
        }
        return false;
    }

    int lines() {
        state(known.size() == triples.size());
        Set<Set<Integer>> all = new HashSet<>();
        for (int i = 0; i < n; i++) {
            for (int j = 0; j < n; j++) {
                if (i != j) {
                    Set<Integer> line = new HashSet<>(List.of(i, j));
                    for (int x = 0; x < n; x++) {
                        if (s(i, j, x) == 0) {
                            line.add(x);
                        }
                    }
                    all.add(line);
                }
            }
        }
        return all.size();
    }

    boolean place(int p, int x, int y) {
        point(p);
        argument(x >= -50 && x <= 50 && y >= -50 && y <= 50);
        save();
        return at.put(p, new int[] {x, y}) != null;
    }

    int coordinate(int p, int what) {
        point(p);
        argument(what == 0 || what == 1);
        return at.containsKey(p) ? at.get(p)[what] : NONE;
    }

    /** The sign by coordinates; null if a point has none. */
    private static Integer signAt(String triple, Map<Integer, int[]> at) {
        int[] i = at.get(triple.charAt(0) - 'a');
        int[] j = at.get(triple.charAt(1) - 'a');
        int[] k = at.get(triple.charAt(2) - 'a');
        if (i == null || j == null || k == null) {
            return null;
        }
        return Integer.signum((j[0] - i[0]) * (k[1] - i[1]) - (j[1] - i[1]) * (k[0] - i[0]));
    }

    int read() {
        save();
        int found = 0;
        for (String t : triples) {
            Integer sign = signAt(t, at);
            if (sign != null) {
                give(t, sign);
                found++;
            }
        }
        return found;
    }

    int mismatches() {
        return mismatches(at);
    }

    private int mismatches(Map<Integer, int[]> places) {
        int found = 0;
        for (Map.Entry<String, Known> entry : known.entrySet()) {
            Integer sign = signAt(entry.getKey(), places);
            found += sign != null && sign != entry.getValue().sign ? 1 : 0;
        }
        return found;
    }

    int scatter(int seed, int tries, int range) {
        argument(seed >= 0 && seed <= 999999);
        argument(tries >= 1 && tries <= 50);
        argument(range >= 1 && range <= 50);
        save();
        List<Map<Integer, int[]>> all = new ArrayList<>();
        long s = seed;
        for (int t = 0; t < tries; t++) {
            Map<Integer, int[]> places = new TreeMap<>();
            for (int p = 0; p < n; p++) {
                int[] xy = new int[2];
                for (int c = 0; c < 2; c++) {
                    s = Math.floorMod(1103515245L * s + 12345L, 2147483648L);
                    xy[c] = (int) (Math.floorDiv(s, 65536L) % (2 * range + 1)) - range;
                }
                places.put(p, xy);
            }
            all.add(places);
        }
        Map<Integer, int[]> best = all.get(0);
        for (Map<Integer, int[]> places : all) {
            if (mismatches(places) < mismatches(best)) {
                best = places;
            }
        }
        at = best;
        return mismatches(best);
    }

    int type(int value) {
        argument(value >= 0 && value <= 127);
        state(script.length() < 120);
        script += (char) value;
        return script.length();
    }

    int clearScript() {
        int before = script.length();
        script = "";
        return before;
    }

    /** The fault of a text; -1 if it has none. */
    static int faultOf(String text) {
        if (SCRIPT.matcher(text).matches()) {
            return -1;
        }
        int fault = 0;
        while (fault < text.length() && canStand(text.substring(0, fault + 1))) {
            fault++;
        }
        // A word that is none is at fault with its first byte, wherever that shows.
        int start = fault == 0 ? 0 : text.lastIndexOf(';', fault - 1) + 1;
        while (start < text.length() && text.charAt(start) == ' ') {
            start++;
        }
        Matcher word = Pattern.compile("[a-z]+").matcher(text).region(start, text.length());
        if (word.lookingAt() && fault <= word.end() && !WORDS.contains(word.group())) {
            return start;
        }
        return fault;
    }

    /** Tells whether a text can be the beginning of a script without a fault. */
    private static boolean canStand(String text) {
        Matcher matcher = SCRIPT.matcher(text);
        return matcher.matches() || matcher.hitEnd();
    }

    int run() {
        int fault = faultOf(script);
        if (fault >= 0) {
            return -1000 - fault;
        }
        save();
        int done = 0;
        for (String command : script.split(";")) {
            String[] parts = command.trim().split(" +");
            if (parts[0].isEmpty()) {
                continue;
            }
            if (!carryOut(parts)) {
                break;
            }
            done++;
        }
        return done;
    }

    private boolean carryOut(String[] parts) {
        if (parts[0].equals("derive")) {
            deriveAll();
            return true;
        }
        if (parts[0].equals("mirror")) {
            mirrorAll();
            return true;
        }
        int i = parts[1].charAt(0) - 'a';
        int j = parts[1].charAt(1) - 'a';
        int k = parts[1].charAt(2) - 'a';
        if (Math.max(i, Math.max(j, k)) >= n || i == j || i == k || j == k) {
            return false;
        }
        String triple = key(i, j, k);
        if (parts[0].equals("drop")) {
            Known one = known.get(triple);
            if (one == null || !one.given) {
                return false;
            }
            drop(triple);
            return true;
        }
        int sign = parts[0].equals("plus") ? 1 : parts[0].equals("minus") ? -1 : 0;
        give(triple, sign * parity(i, j, k));
        return true;
    }

    int written(int index) {
        argument(index >= 0);
        StringBuilder text = new StringBuilder();
        known.forEach((t, one) -> {
            if (one.given) {
                text.append(one.sign > 0 ? "plus" : one.sign < 0 ? "minus" : "zero");
                text.append(' ').append(t).append(';');
            }
        });
        return index < text.length() ? text.charAt(index) : NONE;
    }

    int undo() {
        state(!stack.isEmpty());
        Snapshot s = stack.removeLast();
        renumber(s.n);
        uniform = s.uniform;
        contradiction = s.contradiction;
        known = s.known;
        at = s.at;
        return stack.size();
    }

    long digest() {
        List<Long> values = new ArrayList<>();
        values.add((long) stack.size());
        values.add((long) script.length());
        for (int what = 0; what <= 9; what++) {
            values.add((long) count(what));
        }
        Map<String, Set<String>> told = new TreeMap<>();
        for (int t = 0; t < triples.size(); t++) {
            for (int what = 3; what <= 6; what++) {
                values.add((long) triple(t, what));
            }
            values.add(mask(reasonSet(triples.get(t), told)));
        }
        for (int r = 0; r < relations.size(); r++) {
            values.add((long) relation(r, 5));
            values.add((long) relation(r, 6));
        }
        for (int p = 0; p < n; p++) {
            values.add(isExtreme(p) ? 1L : 0L);
            values.add((long) coordinate(p, 0));
            values.add((long) coordinate(p, 1));
        }
        values.add((long) mismatches());
        long h = 18398;
        for (long v : values) {
            h = 31 * h + v;
        }
        return h;
    }
}
