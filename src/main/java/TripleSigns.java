import java.util.Arrays;

/**
 * A workbench for chirotopes of rank 3: the signs of the triples of three to eight points, given in
 * part and completed by exchange relations. What each method does is told by the promises of DOC.md.
 *
 * <p>Every row is made in the constructor and used again, so that no call makes an object.
 */
public final class TripleSigns {
    public static final int NONE = -100;

    private static final int FEWEST_POINTS = 3;
    private static final int FIRST_POINTS = 5;
    private static final int MOST_POINTS = 8;
    private static final int MOST_TRIPLES = 56;
    private static final int MOST_RELATIONS = 280;
    private static final int MOST_PAIRS = 28;
    private static final int MOST_OPEN = 10;
    private static final int MOST_SAVED = 4;
    private static final int FARTHEST = 50;
    private static final int MOST_TRIES = 50;
    private static final int HIGHEST_SEED = 999999;
    private static final int MOST_BYTES = 120;
    private static final int HIGHEST_BYTE = 127;
    private static final int FAULT_BASE = -1000;
    private static final long DIGEST_START = 18398L;

    private static final int UNKNOWN = 0;
    private static final int GIVEN = 1;
    private static final int DERIVED = 2;

    private static final int PLUS = 0;
    private static final int MINUS = 1;
    private static final int ZERO = 2;
    private static final int DROP = 3;
    private static final int DERIVE = 4;
    private static final int MIRROR = 5;
    private static final int WORDS = 6;
    private static final int NO_WORD = -1;

    private final Layout layout = new Layout();
    private final State now = new State();
    private final Script script = new Script();
    private final State[] saved = new State[MOST_SAVED];
    private int savedStates = 0;

    // Rows that calls work in; nothing in them outlives the call.
    private final int[] exchanged = new int[MOST_TRIPLES];
    private final int[] open = new int[MOST_OPEN];
    private final int[] lineMasks = new int[MOST_PAIRS];
    private final int[] triedXs = new int[MOST_POINTS];
    private final int[] triedYs = new int[MOST_POINTS];
    private final int[] bestXs = new int[MOST_POINTS];
    private final int[] bestYs = new int[MOST_POINTS];

    public TripleSigns() {
        for (int s = 0; s < MOST_SAVED; s++) {
            saved[s] = new State();
        }
        now.clearFor(FIRST_POINTS);
        layout.arrange(FIRST_POINTS);
    }

    // ---- points and signs

    public int begin(int points) throws IllegalArgumentException {
        if (points < FEWEST_POINTS || points > MOST_POINTS) {
            throw new IllegalArgumentException("points is out of range");
        }
        save();
        now.clearFor(points);
        layout.arrange(points);
        return layout.triples;
    }

    public int give(int i, int j, int k, int sign)
            throws IndexOutOfBoundsException, IllegalArgumentException {
        requirePoint(i);
        requirePoint(j);
        requirePoint(k);
        requireDistinct(i, j, k);
        if (sign < -1 || sign > 1) {
            throw new IllegalArgumentException("sign is out of range");
        }
        int before = orderedSign(i, j, k);
        save();
        giveOrdered(i, j, k, sign);
        return before;
    }

    public int drop(int i, int j, int k)
            throws IndexOutOfBoundsException, IllegalArgumentException, IllegalStateException {
        requirePoint(i);
        requirePoint(j);
        requirePoint(k);
        requireDistinct(i, j, k);
        int triple = layout.numberOf(i, j, k);
        if (now.kinds[triple] != GIVEN) {
            throw new IllegalStateException("the triple is not given");
        }
        int before = orderedSign(i, j, k);
        save();
        takeAway(triple);
        return before;
    }

    public boolean setUniform(boolean uniform) {
        boolean before = now.uniform;
        save();
        now.forgetDerived();
        now.uniform = uniform;
        return before;
    }

    public int derive() {
        save();
        return deriveAll();
    }

    public int forget() {
        save();
        return now.forgetDerived();
    }

    public int mirror() {
        save();
        return negateAll();
    }

    public int turn(int point) throws IndexOutOfBoundsException {
        requirePoint(point);
        save();
        int turned = 0;
        for (int t = 0; t < layout.triples; t++) {
            if (layout.hasCorner(t, point) && now.kinds[t] != UNKNOWN) {
                now.signs[t] = -now.signs[t];
                turned++;
            }
        }
        return turned;
    }

    public int exchange(int i, int j) throws IndexOutOfBoundsException, IllegalArgumentException {
        requirePoint(i);
        requirePoint(j);
        if (i == j) {
            throw new IllegalArgumentException("the points are equal");
        }
        save();
        now.forgetDerived();
        exchangeSigns(i, j);
        exchangeCoordinates(i, j);
        return now.countKind(GIVEN, layout.triples);
    }

    public int sign(int i, int j, int k) throws IndexOutOfBoundsException {
        requirePoint(i);
        requirePoint(j);
        requirePoint(k);
        return orderedSign(i, j, k);
    }

    public int triple(int triple, int what)
            throws IndexOutOfBoundsException, IllegalArgumentException {
        requireTriple(triple);
        switch (what) {
            case 0:
            case 1:
            case 2:
                return layout.corner(triple, what);
            case 3:
                return now.signs[triple];
            case 4:
                return now.kinds[triple];
            case 5:
                return now.sources[triple];
            case 6:
                return now.steps[triple];
            default:
                throw new IllegalArgumentException("what is out of range");
        }
    }

    public long reasons(int triple) throws IndexOutOfBoundsException {
        requireTriple(triple);
        return now.reasonMasks[triple];
    }

    public int count(int what) throws IllegalArgumentException {
        switch (what) {
            case 0:
                return layout.points;
            case 1:
                return layout.triples;
            case 2:
                return now.countKind(GIVEN, layout.triples);
            case 3:
                return now.countKind(DERIVED, layout.triples);
            case 4:
                return now.countKind(UNKNOWN, layout.triples);
            case 5:
                return layout.relations;
            case 6:
                return countComplete();
            case 7:
                return countViolated();
            case 8:
                return now.contradiction;
            case 9:
                return now.uniform ? 1 : 0;
            default:
                throw new IllegalArgumentException("what is out of range");
        }
    }

    // ---- relations

    public int relation(int relation, int what)
            throws IndexOutOfBoundsException, IllegalArgumentException {
        requireRelation(relation);
        switch (what) {
            case 0:
            case 1:
            case 2:
            case 3:
            case 4:
                return layout.member(relation, what);
            case 5:
                return layout.unknownIn(relation, now.signs);
            case 6:
                return layout.verdict(relation, now.signs);
            default:
                throw new IllegalArgumentException("what is out of range");
        }
    }

    public long behind(int relation) throws IndexOutOfBoundsException {
        requireRelation(relation);
        return reasonsOf(relation);
    }

    public int completions() throws IllegalStateException {
        int unknown = now.countKind(UNKNOWN, layout.triples);
        if (unknown > MOST_OPEN) {
            throw new IllegalStateException("too many triples are unknown");
        }
        if (countViolated() > 0) {
            return 0;
        }
        int listed = 0;
        for (int t = 0; t < layout.triples && listed < MOST_OPEN; t++) {
            if (now.kinds[t] == UNKNOWN) {
                open[listed] = t;
                listed++;
            }
        }
        return waysFrom(0, listed, open, now.signs, layout);
    }

    // ---- what follows from signs

    public int cocircuit(int i, int j)
            throws IndexOutOfBoundsException, IllegalArgumentException, IllegalStateException {
        requirePoint(i);
        requirePoint(j);
        if (i == j) {
            throw new IllegalArgumentException("the points are equal");
        }
        int sum = 0;
        int power = 1;
        for (int x = 0; x < layout.points; x++) {
            int sign = orderedSign(i, j, x);
            if (sign == NONE) {
                throw new IllegalStateException("a sign is unknown");
            }
            if (sign == 1) {
                sum += power;
            } else if (sign == -1) {
                sum += 2 * power;
            }
            power *= 4;
        }
        return sum;
    }

    public boolean isExtreme(int point) throws IndexOutOfBoundsException {
        requirePoint(point);
        for (int j = 0; j < layout.points; j++) {
            if (j != point && borders(point, j)) {
                return true;
            }
        }
        return false;
    }

    public int lines() throws IllegalStateException {
        if (now.countKind(UNKNOWN, layout.triples) > 0) {
            throw new IllegalStateException("a triple is unknown");
        }
        int lines = 0;
        for (int i = 0; i < layout.points; i++) {
            for (int j = i + 1; j < layout.points; j++) {
                int mask = lineMask(i, j);
                if (!isListed(mask, lines) && lines < MOST_PAIRS) {
                    lineMasks[lines] = mask;
                    lines++;
                }
            }
        }
        return lines;
    }

    // ---- coordinates

    public boolean place(int point, int x, int y)
            throws IndexOutOfBoundsException, IllegalArgumentException {
        requirePoint(point);
        if (x < -FARTHEST || x > FARTHEST || y < -FARTHEST || y > FARTHEST) {
            throw new IllegalArgumentException("a coordinate is out of range");
        }
        boolean before = now.xs[point] != NONE;
        save();
        now.xs[point] = x;
        now.ys[point] = y;
        return before;
    }

    public int coordinate(int point, int what)
            throws IndexOutOfBoundsException, IllegalArgumentException {
        requirePoint(point);
        if (what < 0 || what > 1) {
            throw new IllegalArgumentException("what is out of range");
        }
        return what == 0 ? now.xs[point] : now.ys[point];
    }

    public int read() {
        save();
        int placed = 0;
        for (int t = 0; t < layout.triples; t++) {
            int sign = layout.signAt(t, now.xs, now.ys);
            if (sign != NONE) {
                giveTriple(t, sign);
                placed++;
            }
        }
        return placed;
    }

    public int mismatches() {
        return mismatchesAt(now.xs, now.ys);
    }

    public int scatter(int seed, int tries, int range) throws IllegalArgumentException {
        if (seed < 0 || seed > HIGHEST_SEED) {
            throw new IllegalArgumentException("seed is out of range");
        }
        if (tries < 1 || tries > MOST_TRIES) {
            throw new IllegalArgumentException("tries is out of range");
        }
        if (range < 1 || range > FARTHEST) {
            throw new IllegalArgumentException("range is out of range");
        }
        save();
        int fewest = MOST_TRIPLES + 1;
        long s = seed;
        for (int t = 0; t < tries; t++) {
            s = tryPlacement(s, range);
            int found = mismatchesAt(triedXs, triedYs);
            if (found < fewest) {
                fewest = found;
                copyPoints(triedXs, triedYs, bestXs, bestYs);
            }
        }
        copyPoints(bestXs, bestYs, now.xs, now.ys);
        return fewest;
    }

    // ---- scripts, undo and checksum

    public int type(int value) throws IllegalArgumentException, IllegalStateException {
        if (value < 0 || value > HIGHEST_BYTE) {
            throw new IllegalArgumentException("value is out of range");
        }
        if (script.length >= MOST_BYTES) {
            throw new IllegalStateException("the script is full");
        }
        script.bytes[script.length] = value;
        script.length++;
        return script.length;
    }

    public int clearScript() {
        int before = script.length;
        script.length = 0;
        return before;
    }

    public int run() {
        int fault = script.parse();
        if (fault != NONE) {
            return FAULT_BASE - fault;
        }
        save();
        int done = 0;
        while (done < script.commands && carryOut(done)) {
            done++;
        }
        return done;
    }

    public int written(int index) throws IllegalArgumentException {
        if (index < 0) {
            throw new IllegalArgumentException("index is negative");
        }
        int rest = index;
        for (int t = 0; t < layout.triples; t++) {
            if (now.kinds[t] == GIVEN) {
                String word = Script.spelling(Script.wordFor(now.signs[t]));
                int size = word.length() + 5;
                if (rest < size) {
                    return writtenIn(t, word, rest);
                }
                rest -= size;
            }
        }
        return NONE;
    }

    public int undo() throws IllegalStateException {
        if (savedStates < 1 || savedStates > MOST_SAVED) {
            throw new IllegalStateException("the undo stack is empty");
        }
        savedStates--;
        now.copyFrom(saved[savedStates]);
        if (layout.points != now.points) {
            layout.arrange(now.points);
        }
        return savedStates;
    }

    public long digest() {
        long h = DIGEST_START;
        h = 31 * h + savedStates;
        h = 31 * h + script.length;
        for (int what = 0; what <= 9; what++) {
            h = 31 * h + count(what);
        }
        for (int t = 0; t < layout.triples; t++) {
            for (int what = 3; what <= 6; what++) {
                h = 31 * h + triple(t, what);
            }
            h = 31 * h + reasons(t);
        }
        for (int r = 0; r < layout.relations; r++) {
            h = 31 * h + relation(r, 5);
            h = 31 * h + relation(r, 6);
        }
        for (int p = 0; p < layout.points; p++) {
            h = 31 * h + (isExtreme(p) ? 1 : 0);
            h = 31 * h + coordinate(p, 0);
            h = 31 * h + coordinate(p, 1);
        }
        return 31 * h + mismatches();
    }

    // ---- arguments

    private boolean isPoint(int point) {
        return point >= 0 && point < layout.points;
    }

    private void requirePoint(int point) {
        if (!isPoint(point)) {
            throw new IndexOutOfBoundsException("there is no such point");
        }
    }

    private void requireTriple(int triple) {
        if (triple < 0 || triple >= layout.triples) {
            throw new IndexOutOfBoundsException("there is no such triple");
        }
    }

    private void requireRelation(int relation) {
        if (relation < 0 || relation >= layout.relations) {
            throw new IndexOutOfBoundsException("there is no such relation");
        }
    }

    private static boolean areDistinct(int i, int j, int k) {
        return i != j && i != k && j != k;
    }

    private static void requireDistinct(int i, int j, int k) {
        if (!areDistinct(i, j, k)) {
            throw new IllegalArgumentException("two of the points are equal");
        }
    }

    // ---- signs

    private int orderedSign(int i, int j, int k) {
        int parity = layout.parity(i, j, k);
        if (parity == 0) {
            return 0;
        }
        int sign = now.signs[layout.numberOf(i, j, k)];
        return sign == NONE ? NONE : parity * sign;
    }

    private void giveOrdered(int i, int j, int k, int sign) {
        giveTriple(layout.numberOf(i, j, k), layout.parity(i, j, k) * sign);
    }

    private void giveTriple(int triple, int sign) {
        if (now.kinds[triple] == GIVEN && now.signs[triple] == sign) {
            return;
        }
        if (now.kinds[triple] == UNKNOWN) {
            now.contradiction = NONE;
        } else {
            now.forgetDerived();
        }
        now.setGiven(triple, sign);
    }

    private void takeAway(int triple) {
        now.forgetDerived();
        now.setUnknown(triple);
    }

    private int negateAll() {
        int negated = 0;
        for (int t = 0; t < layout.triples; t++) {
            if (now.kinds[t] != UNKNOWN) {
                now.signs[t] = -now.signs[t];
                negated++;
            }
        }
        return negated;
    }

    private static int partner(int point, int i, int j) {
        if (point == i) {
            return j;
        }
        return point == j ? i : point;
    }

    private void exchangeSigns(int i, int j) {
        for (int t = 0; t < layout.triples; t++) {
            int p = partner(layout.corner(t, 0), i, j);
            int q = partner(layout.corner(t, 1), i, j);
            int r = partner(layout.corner(t, 2), i, j);
            exchanged[t] = orderedSign(p, q, r);
        }
        for (int t = 0; t < layout.triples; t++) {
            if (exchanged[t] == NONE) {
                now.setUnknown(t);
            } else {
                now.setGiven(t, exchanged[t]);
            }
        }
    }

    private void exchangeCoordinates(int i, int j) {
        int x = now.xs[i];
        int y = now.ys[i];
        now.xs[i] = now.xs[j];
        now.ys[i] = now.ys[j];
        now.xs[j] = x;
        now.ys[j] = y;
    }

    // ---- deriving

    private int deriveAll() {
        int before = now.countKind(DERIVED, layout.triples);
        now.contradiction = NONE;
        boolean changed = true;
        // Each round but the last one derives a triple, so that the bound is never what ends this.
        for (int round = 0; changed && round <= MOST_TRIPLES; round++) {
            changed = deriveOnce();
        }
        return now.countKind(DERIVED, layout.triples) - before;
    }

    /** Tells whether deriving has to go through the relations once more. */
    private boolean deriveOnce() {
        boolean changed = false;
        for (int r = 0; r < layout.relations; r++) {
            int unknown = layout.unknownIn(r, now.signs);
            if (unknown == 1) {
                changed = deriveFrom(r) || changed;
            } else if (unknown == 0 && layout.verdict(r, now.signs) < 0) {
                now.contradiction = r;
            }
            if (now.contradiction != NONE) {
                return false;
            }
        }
        return changed;
    }

    /** Looks at a relation with one unknown triple and tells whether that triple got a sign. */
    private boolean deriveFrom(int relation) {
        int triple = layout.firstUnknownIn(relation, now.signs);
        int possible = 0;
        int found = NONE;
        int stride = now.uniform ? 2 : 1;
        for (int sign = -1; sign <= 1; sign += stride) {
            now.signs[triple] = sign;
            if (layout.verdict(relation, now.signs) > 0) {
                possible++;
                found = sign;
            }
        }
        now.signs[triple] = NONE;
        if (possible == 0) {
            now.contradiction = relation;
        }
        if (possible != 1) {
            return false;
        }
        int step = now.countKind(DERIVED, layout.triples) + 1;
        // The triple is still unknown here and so adds no reasons of its own.
        now.setDerived(triple, found, relation, step, reasonsOf(relation));
        return true;
    }

    private long reasonsOf(int relation) {
        long mask = 0L;
        for (int f = 0; f < Layout.FACTORS; f++) {
            mask |= now.reasonMasks[layout.factor(relation, f)];
        }
        return mask;
    }

    private int countComplete() {
        int found = 0;
        for (int r = 0; r < layout.relations; r++) {
            if (layout.unknownIn(r, now.signs) == 0) {
                found++;
            }
        }
        return found;
    }

    private int countViolated() {
        int found = 0;
        for (int r = 0; r < layout.relations; r++) {
            if (layout.verdict(r, now.signs) < 0) {
                found++;
            }
        }
        return found;
    }

    /** Counts the completions of the open triples from a depth on; the signs are as before at its end. */
    private static int waysFrom(int depth, int depths, int[] open, int[] signs, Layout layout) {
        if (depth >= depths || depth >= MOST_OPEN) {
            return 1;
        }
        int triple = open[depth];
        int ways = 0;
        for (int sign = -1; sign <= 1; sign += 2) {
            signs[triple] = sign;
            if (!layout.isViolatedWith(triple, signs)) {
                ways += waysFrom(depth + 1, depths, open, signs, layout);
            }
        }
        signs[triple] = NONE;
        return ways;
    }

    // ---- what follows from signs

    /** Tells whether all other points lie on one side of the line of two points, or on it, but not all on it. */
    private boolean borders(int i, int j) {
        boolean left = false;
        boolean right = false;
        for (int x = 0; x < layout.points; x++) {
            int sign = orderedSign(i, j, x);
            if (sign == NONE) {
                return false;
            }
            left = left || sign == 1;
            right = right || sign == -1;
        }
        return left != right;
    }

    private int lineMask(int i, int j) {
        int mask = 0;
        for (int x = 0; x < layout.points; x++) {
            if (orderedSign(i, j, x) == 0) {
                mask |= 1 << x;
            }
        }
        return mask;
    }

    private boolean isListed(int mask, int lines) {
        for (int l = 0; l < lines && l < MOST_PAIRS; l++) {
            if (lineMasks[l] == mask) {
                return true;
            }
        }
        return false;
    }

    // ---- coordinates

    private int mismatchesAt(int[] xs, int[] ys) {
        int found = 0;
        for (int t = 0; t < layout.triples; t++) {
            if (now.kinds[t] != UNKNOWN) {
                int sign = layout.signAt(t, xs, ys);
                if (sign != NONE && sign != now.signs[t]) {
                    found++;
                }
            }
        }
        return found;
    }

    private static long nextRandom(long s) {
        return (1103515245L * s + 12345L) % 2147483648L;
    }

    private static int randomCoordinate(long s, int range) {
        return (int) (s / 65536L % (2L * range + 1L)) - range;
    }

    /** Makes one placement and returns the number with which the next one goes on. */
    private long tryPlacement(long seed, int range) {
        long s = seed;
        for (int p = 0; p < layout.points; p++) {
            s = nextRandom(s);
            triedXs[p] = randomCoordinate(s, range);
            s = nextRandom(s);
            triedYs[p] = randomCoordinate(s, range);
        }
        return s;
    }

    private void copyPoints(int[] fromXs, int[] fromYs, int[] toXs, int[] toYs) {
        System.arraycopy(fromXs, 0, toXs, 0, layout.points);
        System.arraycopy(fromYs, 0, toYs, 0, layout.points);
    }

    // ---- scripts and undo

    /** Carries a command of the script out, or changes nothing and returns false where it would throw. */
    private boolean carryOut(int command) {
        int word = script.words[command];
        if (word == DERIVE) {
            deriveAll();
            return true;
        }
        if (word == MIRROR) {
            negateAll();
            return true;
        }
        int i = script.name(command, 0);
        int j = script.name(command, 1);
        int k = script.name(command, 2);
        if (!isPoint(i) || !isPoint(j) || !isPoint(k) || !areDistinct(i, j, k)) {
            return false;
        }
        if (word != DROP) {
            giveOrdered(i, j, k, Script.signOf(word));
            return true;
        }
        int triple = layout.numberOf(i, j, k);
        if (now.kinds[triple] != GIVEN) {
            return false;
        }
        takeAway(triple);
        return true;
    }

    private int writtenIn(int triple, String word, int index) {
        int behindWord = index - word.length();
        if (index >= 0 && behindWord < 0) {
            return word.charAt(index);
        }
        if (behindWord == 0) {
            return ' ';
        }
        return behindWord > 3 ? ';' : 'a' + layout.corner(triple, behindWord - 1);
    }

    private void save() {
        if (savedStates >= MOST_SAVED) {
            State oldest = saved[0];
            for (int s = 1; s < MOST_SAVED; s++) {
                saved[s - 1] = saved[s];
            }
            saved[MOST_SAVED - 1] = oldest;
            savedStates--;
        }
        saved[savedStates].copyFrom(now);
        savedStates++;
    }

    /** How triples and relations are numbered, which follows from the number of points alone. */
    private static final class Layout {
        private static final int CORNERS = 3;
        private static final int MEMBERS = 5;
        private static final int FACTORS = 6;
        private static final int PRODUCTS = 3;

        private int points = 0;
        private int triples = 0;
        private int relations = 0;
        private final int[] corners = new int[MOST_TRIPLES * CORNERS];
        // By spot(i, j, k); the parity is 0 if two of the points are equal.
        private final int[] numbers = new int[MOST_POINTS * MOST_POINTS * MOST_POINTS];
        private final int[] parities = new int[MOST_POINTS * MOST_POINTS * MOST_POINTS];
        private final int[] members = new int[MOST_RELATIONS * MEMBERS];
        private final int[] factors = new int[MOST_RELATIONS * FACTORS];
        private final int[] coefficients = new int[MOST_RELATIONS * PRODUCTS];
        // A bit for each triple of a relation.
        private final long[] masks = new long[MOST_RELATIONS];

        private void arrange(int newPoints) {
            points = newPoints;
            arrangeTriples();
            relations = 0;
            for (int a = 0; a < points; a++) {
                arrangeRelations(a);
            }
        }

        private void arrangeTriples() {
            triples = 0;
            for (int i = 0; i < points; i++) {
                for (int j = i + 1; j < points; j++) {
                    for (int k = j + 1; k < points; k++) {
                        addTriple(i, j, k);
                    }
                }
            }
        }

        private void addTriple(int i, int j, int k) {
            int at = triples * CORNERS;
            corners[at] = i;
            corners[at + 1] = j;
            corners[at + 2] = k;
            enter(i, j, k, 1);
            enter(j, k, i, 1);
            enter(k, i, j, 1);
            enter(i, k, j, -1);
            enter(k, j, i, -1);
            enter(j, i, k, -1);
            triples++;
        }

        private void enter(int i, int j, int k, int parity) {
            numbers[spot(i, j, k)] = triples;
            parities[spot(i, j, k)] = parity;
        }

        private void arrangeRelations(int a) {
            for (int b = 0; b < points; b++) {
                for (int c = b + 1; c < points; c++) {
                    for (int d = c + 1; d < points; d++) {
                        for (int e = d + 1; e < points; e++) {
                            if (b != a && c != a && d != a && e != a) {
                                addRelation(a, b, c, d, e);
                            }
                        }
                    }
                }
            }
        }

        private void addRelation(int a, int b, int c, int d, int e) {
            int at = relations * MEMBERS;
            members[at] = a;
            members[at + 1] = b;
            members[at + 2] = c;
            members[at + 3] = d;
            members[at + 4] = e;
            masks[relations] = 0L;
            setProduct(0, spot(a, b, c), spot(a, d, e), 1);
            setProduct(1, spot(a, b, d), spot(a, c, e), -1);
            setProduct(2, spot(a, b, e), spot(a, c, d), 1);
            relations++;
        }

        private void setProduct(int product, int first, int second, int coefficient) {
            int at = relations * FACTORS + 2 * product;
            factors[at] = numbers[first];
            factors[at + 1] = numbers[second];
            coefficients[relations * PRODUCTS + product] =
                    coefficient * parities[first] * parities[second];
            masks[relations] |= 1L << numbers[first] | 1L << numbers[second];
        }

        private static int spot(int i, int j, int k) {
            return (i * MOST_POINTS + j) * MOST_POINTS + k;
        }

        private int numberOf(int i, int j, int k) {
            return numbers[spot(i, j, k)];
        }

        private int parity(int i, int j, int k) {
            return parities[spot(i, j, k)];
        }

        private int corner(int triple, int which) {
            return corners[triple * CORNERS + which];
        }

        private boolean hasCorner(int triple, int point) {
            return corner(triple, 0) == point
                    || corner(triple, 1) == point
                    || corner(triple, 2) == point;
        }

        private int member(int relation, int which) {
            return members[relation * MEMBERS + which];
        }

        private int factor(int relation, int which) {
            return factors[relation * FACTORS + which];
        }

        private int unknownIn(int relation, int[] signs) {
            int unknown = 0;
            int at = relation * FACTORS;
            for (int f = 0; f < FACTORS; f++) {
                if (signs[factors[at + f]] == NONE) {
                    unknown++;
                }
            }
            return unknown;
        }

        private int firstUnknownIn(int relation, int[] signs) {
            int f = 0;
            while (f < FACTORS - 1 && signs[factor(relation, f)] != NONE) {
                f++;
            }
            return factor(relation, f);
        }

        /** 1 if the relation is fulfilled, -1 if it is violated, 0 if a triple of it is unknown. */
        private int verdict(int relation, int[] signs) {
            if (unknownIn(relation, signs) > 0) {
                return 0;
            }
            boolean plus = false;
            boolean minus = false;
            for (int p = 0; p < PRODUCTS; p++) {
                int product = coefficients[relation * PRODUCTS + p]
                        * signs[factor(relation, 2 * p)]
                        * signs[factor(relation, 2 * p + 1)];
                plus = plus || product == 1;
                minus = minus || product == -1;
            }
            return plus == minus ? 1 : -1;
        }

        private boolean isViolatedWith(int triple, int[] signs) {
            long bit = 1L << triple;
            for (int r = 0; r < relations; r++) {
                if ((masks[r] & bit) != 0L && verdict(r, signs) < 0) {
                    return true;
                }
            }
            return false;
        }

        /** The sign of a triple by coordinates; NONE if one of its points has none. */
        private int signAt(int triple, int[] xs, int[] ys) {
            int i = corner(triple, 0);
            int j = corner(triple, 1);
            int k = corner(triple, 2);
            if (xs[i] == NONE || xs[j] == NONE || xs[k] == NONE) {
                return NONE;
            }
            int area = (xs[j] - xs[i]) * (ys[k] - ys[i]) - (ys[j] - ys[i]) * (xs[k] - xs[i]);
            return Integer.compare(area, 0);
        }
    }

    /** What undo() brings back: all but the script. */
    private static final class State {
        private int points = 0;
        private boolean uniform = false;
        private int contradiction = NONE;
        // By triple: the sign or NONE, and for a derived one its relation and step (otherwise NONE).
        private final int[] signs = new int[MOST_TRIPLES];
        private final int[] kinds = new int[MOST_TRIPLES];
        private final int[] sources = new int[MOST_TRIPLES];
        private final int[] steps = new int[MOST_TRIPLES];
        // Whatever could change the reasons of a derived triple makes it unknown, so they are kept.
        private final long[] reasonMasks = new long[MOST_TRIPLES];
        private final int[] xs = new int[MOST_POINTS];
        private final int[] ys = new int[MOST_POINTS];

        private void clearFor(int newPoints) {
            points = newPoints;
            contradiction = NONE;
            for (int t = 0; t < MOST_TRIPLES; t++) {
                setUnknown(t);
            }
            Arrays.fill(xs, NONE);
            Arrays.fill(ys, NONE);
        }

        private void copyFrom(State other) {
            points = other.points;
            uniform = other.uniform;
            contradiction = other.contradiction;
            System.arraycopy(other.signs, 0, signs, 0, MOST_TRIPLES);
            System.arraycopy(other.kinds, 0, kinds, 0, MOST_TRIPLES);
            System.arraycopy(other.sources, 0, sources, 0, MOST_TRIPLES);
            System.arraycopy(other.steps, 0, steps, 0, MOST_TRIPLES);
            System.arraycopy(other.reasonMasks, 0, reasonMasks, 0, MOST_TRIPLES);
            System.arraycopy(other.xs, 0, xs, 0, MOST_POINTS);
            System.arraycopy(other.ys, 0, ys, 0, MOST_POINTS);
        }

        private void setUnknown(int triple) {
            signs[triple] = NONE;
            kinds[triple] = UNKNOWN;
            sources[triple] = NONE;
            steps[triple] = NONE;
            reasonMasks[triple] = 0L;
        }

        private void setGiven(int triple, int sign) {
            signs[triple] = sign;
            kinds[triple] = GIVEN;
            sources[triple] = NONE;
            steps[triple] = NONE;
            reasonMasks[triple] = 1L << triple;
        }

        private void setDerived(int triple, int sign, int source, int step, long reasonMask) {
            signs[triple] = sign;
            kinds[triple] = DERIVED;
            sources[triple] = source;
            steps[triple] = step;
            reasonMasks[triple] = reasonMask;
        }

        /** Forgets a contradiction, too, and returns how many triples became unknown. */
        private int forgetDerived() {
            int forgotten = 0;
            contradiction = NONE;
            for (int t = 0; t < MOST_TRIPLES; t++) {
                if (kinds[t] == DERIVED) {
                    setUnknown(t);
                    forgotten++;
                }
            }
            return forgotten;
        }

        private int countKind(int kind, int triples) {
            int found = 0;
            for (int t = 0; t < triples && t < MOST_TRIPLES; t++) {
                if (kinds[t] == kind) {
                    found++;
                }
            }
            return found;
        }
    }

    /** The bytes of the script, and the commands in them when it was last parsed. */
    private static final class Script {
        private static final int NAMES = 3;

        private final int[] bytes = new int[MOST_BYTES];
        private int length = 0;
        // A command has a byte at least, so that there are never more commands than bytes.
        private final int[] words = new int[MOST_BYTES];
        private final int[] names = new int[MOST_BYTES * NAMES];
        private int commands = 0;

        /** Finds the commands; returns the fault, or NONE if the script has none. */
        private int parse() {
            commands = 0;
            int at = behindSpaces(0);
            while (at < length && commands < MOST_BYTES) {
                int end = behindCommand(at);
                if (end < 0) {
                    return faultIn(end);
                }
                commands++;
                at = behindSpaces(end);
            }
            return NONE;
        }

        // The readers below return the index behind what they have read, or a fault, told as a
        // negative number.

        private static int tellFault(int index) {
            return -1 - index;
        }

        private static int faultIn(int told) {
            return -1 - told;
        }

        private int behindSpaces(int start) {
            int at = start;
            while (at < length && bytes[at] == ' ') {
                at++;
            }
            return at;
        }

        private int behindLetters(int start) {
            int at = start;
            while (at < length && bytes[at] >= 'a' && bytes[at] <= 'z') {
                at++;
            }
            return at;
        }

        private int behindCommand(int start) {
            int at = behindLetters(start);
            int word = wordBetween(start, at);
            if (word == NO_WORD) {
                return tellFault(start);
            }
            words[commands] = word;
            if (hasNames(word)) {
                at = behindNames(at);
                if (at < 0) {
                    return at;
                }
            }
            at = behindSpaces(at);
            if (at >= length || bytes[at] != ';') {
                return tellFault(at);
            }
            return at + 1;
        }

        private int behindNames(int start) {
            int at = behindSpaces(start);
            if (at == start) {
                return tellFault(start);
            }
            for (int n = 0; n < NAMES; n++) {
                if (at >= length || bytes[at] < 'a' || bytes[at] > 'h') {
                    return tellFault(at);
                }
                names[commands * NAMES + n] = bytes[at] - 'a';
                at++;
            }
            return at;
        }

        private int name(int command, int which) {
            return names[command * NAMES + which];
        }

        private int wordBetween(int start, int end) {
            for (int word = 0; word < WORDS; word++) {
                if (isSpelled(spelling(word), start, end)) {
                    return word;
                }
            }
            return NO_WORD;
        }

        private boolean isSpelled(String spelling, int start, int end) {
            if (spelling.length() != end - start) {
                return false;
            }
            for (int c = 0; c < spelling.length(); c++) {
                if (spelling.charAt(c) != bytes[start + c]) {
                    return false;
                }
            }
            return true;
        }

        private static boolean hasNames(int word) {
            return word != DERIVE && word != MIRROR;
        }

        private static String spelling(int word) {
            switch (word) {
                case PLUS:
                    return "plus";
                case MINUS:
                    return "minus";
                case ZERO:
                    return "zero";
                case DROP:
                    return "drop";
                case DERIVE:
                    return "derive";
                default:
                    return "mirror";
            }
        }

        private static int wordFor(int sign) {
            if (sign == 0) {
                return ZERO;
            }
            return sign > 0 ? PLUS : MINUS;
        }

        private static int signOf(int word) {
            if (word == ZERO) {
                return 0;
            }
            return word == PLUS ? 1 : -1;
        }
    }
}
