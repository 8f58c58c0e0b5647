import java.io.IOException;
import java.util.Set;
import java.util.TreeSet;

/** Runs tests of single sentences of DOC.md, each told by its promise and the sentence's own words. */
final class Edges {
    static final Class<IndexOutOfBoundsException> IOOBE = IndexOutOfBoundsException.class;
    static final Class<IllegalArgumentException> IAE = IllegalArgumentException.class;
    static final Class<IllegalStateException> ISE = IllegalStateException.class;
    static final int NONE = -100;
    static final int MAX = Integer.MAX_VALUE;
    static final int MIN = Integer.MIN_VALUE;

    interface Body {
        void check();
    }

    interface Maker {
        TripleSigns make();
    }

    interface Call {
        long on(TripleSigns x);
    }

    interface CallWith {
        long on(TripleSigns x, int argument);
    }

    private static final Set<String> NAMES = new TreeSet<>();
    private static final Set<Integer> PROMISES = new TreeSet<>();
    private static Doc doc;

    private Edges() {
    }

    static void start() throws IOException {
        doc = new Doc();
    }

    /** A test of its own: of a sentence (or of a part of one), by one edge of it. */
    static void edge(int promise, String sentence, String edge, Body body) {
        String name = "promise " + promise + ", '" + sentence + "', " + edge;
        Check.within(name);
        Check.due("another test has the same name", NAMES.add(name), true);
        Check.due("the document says so", doc.quote(promise, sentence), true);
        PROMISES.add(promise);
        int before = Check.checks();
        try {
            body.check();
        } catch (RuntimeException e) {
            Check.due("the test ended with " + e, false, true);
        }
        Check.due("the test checks something", Check.checks() > before, true);
        Check.within("");
    }

    static void end() {
        for (String words : doc.unquoted()) {
            Check.due("no test quotes '" + words + "'", false, true);
        }
        for (int promise = 1; promise <= 31; promise++) {
            Check.due("promise " + promise + " has a test", PROMISES.contains(promise), true);
        }
        System.out.println(NAMES.size() + " edges");
    }

    // ---- refused calls

    /** The call is refused, and the object goes on like its twin, which was never asked. */
    static void refused(Maker maker, Class<? extends RuntimeException> want, String told, Call call) {
        TripleSigns x = maker.make();
        Check.dueThrow(told, want, () -> call.on(x));
        same("after " + told, x, maker.make());
    }

    /** As refused(), on objects that hold much, with three, five and eight points. */
    static void refused(Class<? extends RuntimeException> want, String told, Call call) {
        for (int n : new int[] {3, 5, 8}) {
            refused(n, want, told, call);
        }
    }

    /** As refused(), on objects that hold much, with so many points. */
    static void refused(int n, Class<? extends RuntimeException> want, String told, Call call) {
        refused(() -> Making.busy(n), want, told + " of " + n + " points", call);
        refused(() -> Making.ready(n), want, told + " of " + n + " points, not derived", call);
    }

    /** As refused(), with every wrong argument. */
    static void refusedEach(int[] wrong, Class<? extends RuntimeException> want, String told, CallWith call) {
        for (int argument : wrong) {
            refused(want, told + " with " + argument, x -> call.on(x, argument));
        }
    }

    /** As refused(), with numbers just outside of the points that there are, and far from them. */
    static void noSuchPoint(String told, CallWith call) {
        for (int n : new int[] {3, 5, 8}) {
            for (int wrong : new int[] {-1, n, n + 1, 8, NONE, MAX, MIN}) {
                refused(n, IOOBE, told + " with " + wrong, x -> call.on(x, wrong));
            }
        }
    }

    // ---- what calls leave behind

    /** Both tell the same from now on: their states, the saved ones, and what their scripts do. */
    static void same(String told, TripleSigns x, TripleSigns twin) {
        Check.due(told + ", digest()", x.digest(), twin.digest());
        for (int u = 1; u <= 5; u++) {
            Check.due(told + ", undo() " + u, undone(x), undone(twin));
            Check.due(told + ", digest() after undo() " + u, x.digest(), twin.digest());
        }
        Check.due(told + ", run()", x.run(), twin.run());
        Check.due(told + ", digest() after run()", x.digest(), twin.digest());
        Check.due(told + ", clearScript()", x.clearScript(), twin.clearScript());
    }

    /** The answer of undo(), or -1 if there is nothing to undo. */
    private static int undone(TripleSigns x) {
        try {
            return x.undo();
        } catch (IllegalStateException e) {
            return -1;
        }
    }

    /** The call saves one state, which is the one from before it; the stack must have room for it. */
    static void undoable(Maker maker, String told, Call call) {
        TripleSigns x = maker.make();
        int states = Making.states(maker);
        long before = x.digest();
        call.on(x);
        Check.due(told + ", undo()", x.undo(), states);
        Check.due(told + ", digest() undone", x.digest(), before);
        same(told + " undone", x, maker.make());
    }

    /** As undoable(), on objects that hold much, with three, five and eight points. */
    static void undoable(String told, Call call) {
        for (int n : new int[] {3, 5, 8}) {
            undoable(() -> Making.busyUniform(n), told + " of " + n + " points", call);
            undoable(() -> Making.busyPlaced(n), told + " of " + n + " placed points", call);
            undoable(() -> Making.ready(n), told + " of " + n + " points, not derived", call);
        }
    }

    /** The call changes nothing that later calls show, and saves no state. */
    static void changesNothing(Maker maker, String told, Call call) {
        TripleSigns x = maker.make();
        call.on(x);
        same(told, x, maker.make());
    }

    /** As changesNothing(), on objects of five points that hold much. */
    static void changesNothing(String told, Call call) {
        changesNothing(() -> Making.busy(5), told, call);
        changesNothing(() -> Making.ready(5), told + ", not derived", call);
        changesNothing(Making::full, told + ", nothing unknown", call);
    }
}
