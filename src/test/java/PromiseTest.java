/** A part for each promise: ordinary inputs, the edges that the document names, and wrong inputs. */
public final class PromiseTest {
    private static final int NONE = TripleSigns.NONE;
    private static final Class<IndexOutOfBoundsException> IOOBE = IndexOutOfBoundsException.class;
    private static final Class<IllegalArgumentException> IAE = IllegalArgumentException.class;
    private static final Class<IllegalStateException> ISE = IllegalStateException.class;
    private static final int MAX = Integer.MAX_VALUE;
    private static final int MIN = Integer.MIN_VALUE;

    public static void main(String[] args) {
        newObject();
        begin();
        give();
        giveAndDerived();
        drop();
        setUniform();
        derive();
        deriveEach();
        deriveAgain();
        deriveContradicts();
        forget();
        mirror();
        turn();
        exchange();
        sign();
        triple();
        reasons();
        count();
        relation();
        behind();
        completions();
        cocircuit();
        isExtreme();
        lines();
        place();
        coordinate();
        read();
        mismatches();
        scatter();
        type();
        clearScript();
        run();
        runFaults();
        runAfterLonger();
        runFull();
        runStops();
        written();
        undo();
        undoOfEach();
        digest();
        eightPoints();
        fewerAgain();
        throwsChangeNothing();
        Check.end("PromiseTest");
    }

    // ---- makings

    private static TripleSigns points(int n) {
        TripleSigns x = new TripleSigns();
        x.begin(n);
        return x;
    }

    /** Five points with plus for every triple but 124 (number 7) and 234 (number 9). */
    private static TripleSigns pentagon() {
        TripleSigns x = new TripleSigns();
        x.give(0, 1, 2, 1);
        x.give(0, 1, 3, 1);
        x.give(0, 1, 4, 1);
        x.give(0, 2, 3, 1);
        x.give(0, 2, 4, 1);
        x.give(0, 3, 4, 1);
        x.give(1, 2, 3, 1);
        x.give(1, 3, 4, 1);
        return x;
    }

    /** The pentagon with 124 derived from relation 1. */
    private static TripleSigns derivedPentagon() {
        TripleSigns x = pentagon();
        x.derive();
        return x;
    }

    /** Relation 0 has the products 1 (012 * 034), 0 and 0, so that deriving ends with it. */
    private static TripleSigns contradiction() {
        TripleSigns x = new TripleSigns();
        x.give(0, 1, 2, 1);
        x.give(0, 3, 4, 1);
        x.give(0, 1, 3, 0);
        x.give(0, 2, 4, 1);
        x.give(0, 1, 4, 0);
        x.give(0, 2, 3, 1);
        x.derive();
        return x;
    }

    private static TripleSigns square() {
        TripleSigns x = new TripleSigns();
        x.place(0, 0, 0);
        x.place(1, 10, 0);
        x.place(2, 10, 10);
        x.place(3, 0, 10);
        return x;
    }

    private static void write(TripleSigns x, String text) {
        x.clearScript();
        for (int c = 0; c < text.length(); c++) {
            x.type(text.charAt(c));
        }
    }

    private static int runOf(TripleSigns x, String text) {
        write(x, text);
        return x.run();
    }

    private static void dueRun(String text, long want) {
        Check.due("run() of '" + text + "'", runOf(new TripleSigns(), text), want);
    }

    private static String textOf(TripleSigns x) {
        StringBuilder text = new StringBuilder();
        for (int index = 0; x.written(index) != NONE; index++) {
            text.append((char) x.written(index));
        }
        return text.toString();
    }

    private static void dueText(String what, TripleSigns x, String want) {
        String got = textOf(x);
        Check.due(what + ": the text '" + got + "' is '" + want + "'", got.equals(want), true);
    }

    private static int states(TripleSigns x) {
        int states = 0;
        try {
            for (int u = 0; u < 10; u++) {
                x.undo();
                states++;
            }
        } catch (IllegalStateException e) {
            return states;
        }
        return states;
    }

    // ---- promise 1

    private static void newObject() {
        TripleSigns x = new TripleSigns();
        int[] counts = {5, 10, 0, 0, 10, 5, 0, 0, NONE, 0};
        for (int what = 0; what < counts.length; what++) {
            Check.due("new: count(" + what + ")", x.count(what), counts[what]);
        }
        for (int t = 0; t < 10; t++) {
            Check.due("new: sign of " + t, x.triple(t, 3), NONE);
        }
        for (int p = 0; p < 5; p++) {
            Check.due("new: x of " + p, x.coordinate(p, 0), NONE);
            Check.due("new: y of " + p, x.coordinate(p, 1), NONE);
        }
        Check.due("new: written(0)", x.written(0), NONE);
        Check.due("new: clearScript()", x.clearScript(), 0);
        Check.dueThrow("new: undo()", ISE, x::undo);
    }

    // ---- promise 2

    private static void begin() {
        int[] triples = {1, 4, 10, 20, 35, 56};
        int[] relations = {0, 0, 5, 30, 105, 280};
        for (int n = 3; n <= 8; n++) {
            TripleSigns x = new TripleSigns();
            Check.due("begin(" + n + ")", x.begin(n), triples[n - 3]);
            Check.due("points", x.count(0), n);
            Check.due("triples", x.count(1), triples[n - 3]);
            Check.due("unknown", x.count(4), triples[n - 3]);
            Check.due("relations", x.count(5), relations[n - 3]);
        }
        for (int wrong : new int[] {2, 9, 0, -1, MAX, MIN}) {
            TripleSigns x = new TripleSigns();
            Check.dueThrow("begin(" + wrong + ")", IAE, () -> x.begin(wrong));
        }
        TripleSigns x = contradiction();
        x.setUniform(true);
        x.derive();
        x.place(4, 1, 2);
        x.type('x');
        Check.due("the contradiction before", x.count(8), 0);
        Check.due("begin(5)", x.begin(5), 10);
        Check.due("no contradiction", x.count(8), NONE);
        Check.due("no given triples", x.count(2), 0);
        Check.due("all unknown", x.count(4), 10);
        Check.due("no coordinates", x.coordinate(4, 0), NONE);
        Check.due("no coordinates", x.coordinate(4, 1), NONE);
        Check.due("the mode stays", x.count(9), 1);
        Check.due("the script stays", x.clearScript(), 1);
        Check.due("undo()", x.undo(), 3);
        Check.due("signs again", x.count(2), 6);
        Check.due("coordinates again", x.coordinate(4, 1), 2);
        TripleSigns small = points(8);
        small.begin(3);
        Check.due("undo() to eight", small.undo(), 1);
        Check.due("eight points", small.count(0), 8);
        Check.due("eight: relations", small.count(5), 280);
        Check.due("undo() to five", small.undo(), 0);
        Check.due("five: relations", small.count(5), 5);
        Check.due("five: the last triple", small.triple(9, 0), 2);
    }

    // ---- promise 3

    private static void give() {
        TripleSigns x = new TripleSigns();
        Check.due("give(2, 0, 1, 1)", x.give(2, 0, 1, 1), NONE);
        Check.due("sign(0, 1, 2)", x.sign(0, 1, 2), 1);
        Check.due("give(1, 0, 2, 1)", x.give(1, 0, 2, 1), -1);
        Check.due("sign(0, 1, 2)", x.sign(0, 1, 2), -1);
        Check.due("give(2, 1, 0, 0)", x.give(2, 1, 0, 0), 1);
        Check.due("sign(0, 1, 2)", x.sign(0, 1, 2), 0);
        Check.due("give(0, 1, 2, -1)", x.give(0, 1, 2, -1), 0);
        Check.due("given", x.count(2), 1);
        Check.due("kind", x.triple(0, 4), 1);
        Check.due("undo()", x.undo(), 3);
        Check.due("sign(0, 1, 2)", x.sign(0, 1, 2), 0);
        for (int wrong : new int[] {-1, 5, MAX, MIN}) {
            Check.dueThrow("give(" + wrong + ", 1, 1, 2)", IOOBE, () -> x.give(wrong, 1, 1, 2));
            Check.dueThrow("give(1, " + wrong + ", 1, 2)", IOOBE, () -> x.give(1, wrong, 1, 2));
            Check.dueThrow("give(1, 1, " + wrong + ", 2)", IOOBE, () -> x.give(1, 1, wrong, 2));
        }
        Check.dueThrow("give(1, 1, 2, 0)", IAE, () -> x.give(1, 1, 2, 0));
        Check.dueThrow("give(1, 2, 1, 0)", IAE, () -> x.give(1, 2, 1, 0));
        Check.dueThrow("give(2, 1, 1, 0)", IAE, () -> x.give(2, 1, 1, 0));
        for (int wrong : new int[] {2, -2, MAX, MIN, NONE}) {
            Check.dueThrow("give(0, 1, 2, " + wrong + ")", IAE, () -> x.give(0, 1, 2, wrong));
        }
        Check.due("give after begin(8)", points(8).give(7, 6, 5, 1), NONE);
    }

    private static void giveAndDerived() {
        TripleSigns x = derivedPentagon();
        Check.due("the sign that it has", x.give(0, 1, 2, 1), 1);
        Check.due("the derived one stays", x.count(3), 1);
        Check.due("an unknown one", x.give(2, 3, 4, 1), NONE);
        Check.due("the derived one stays", x.triple(7, 4), 2);
        Check.due("another sign", x.give(0, 1, 2, -1), 1);
        Check.due("no derived one", x.count(3), 0);
        Check.due("124 is unknown", x.triple(7, 3), NONE);

        TripleSigns same = derivedPentagon();
        Check.due("a derived one is given its sign", same.give(1, 2, 4, 1), 1);
        Check.due("it is given", same.triple(7, 4), 1);
        Check.due("its relation", same.triple(7, 5), NONE);
        Check.due("its step", same.triple(7, 6), NONE);
        Check.due("its reasons", same.reasons(7), 1 << 7);

        TripleSigns two = contradictionFreeChain();
        Check.due("two derived ones", two.count(3), 2);
        Check.due("the first is given its sign", two.give(0, 1, 4, -1), -1);
        Check.due("the other is unknown", two.count(3), 0);
        Check.due("the first is given", two.triple(2, 4), 1);
        Check.due("the given ones", two.count(2), 8);

        TripleSigns against = contradiction();
        Check.due("contradiction", against.count(8), 0);
        against.give(0, 1, 3, 0);
        Check.due("a given one with its sign changes nothing", against.count(8), 0);
        against.give(2, 3, 4, 1);
        Check.due("an unknown one forgets a contradiction", against.count(8), NONE);
        against.derive();
        Check.due("contradiction again", against.count(8), 0);
        against.give(0, 1, 3, 1);
        Check.due("another sign forgets a contradiction", against.count(8), NONE);
    }

    /**
     * 014 is derived first, by relation 0 (1 + 0 + 014 * 023), then 134, by relation 1, whose
     * products are -012 * 134, 013 * 124 = 0 and -014 * 123 = 1, so that 012 * 134 is 1.
     */
    private static TripleSigns contradictionFreeChain() {
        TripleSigns x = new TripleSigns();
        x.give(0, 1, 2, 1);
        x.give(0, 3, 4, 1);
        x.give(0, 1, 3, 0);
        x.give(0, 2, 4, 1);
        x.give(0, 2, 3, 1);
        x.give(1, 2, 3, 1);
        x.give(1, 2, 4, 1);
        x.derive();
        return x;
    }

    // ---- promise 4

    private static void drop() {
        TripleSigns x = derivedPentagon();
        Check.dueThrow("drop of a derived one", ISE, () -> x.drop(1, 2, 4));
        Check.dueThrow("drop of an unknown one", ISE, () -> x.drop(2, 3, 4));
        Check.due("drop(1, 0, 2)", x.drop(1, 0, 2), -1);
        Check.due("it is unknown", x.triple(0, 4), 0);
        Check.due("its sign", x.triple(0, 3), NONE);
        Check.due("its reasons", x.reasons(0), 0);
        Check.due("the derived one is unknown", x.count(3), 0);
        Check.dueThrow("drop again", ISE, () -> x.drop(1, 0, 2));
        Check.due("undo()", x.undo(), 3);
        Check.due("derived again", x.triple(7, 4), 2);
        for (int wrong : new int[] {-1, 5, MAX, MIN}) {
            Check.dueThrow("drop(" + wrong + ", 1, 1)", IOOBE, () -> x.drop(wrong, 1, 1));
            Check.dueThrow("drop(1, " + wrong + ", 1)", IOOBE, () -> x.drop(1, wrong, 1));
            Check.dueThrow("drop(1, 1, " + wrong + ")", IOOBE, () -> x.drop(1, 1, wrong));
        }
        Check.dueThrow("drop(1, 1, 2)", IAE, () -> x.drop(1, 1, 2));
        Check.dueThrow("drop(1, 2, 1)", IAE, () -> x.drop(1, 2, 1));
        Check.dueThrow("drop(2, 1, 1)", IAE, () -> x.drop(2, 1, 1));
        TripleSigns against = contradiction();
        Check.due("drop(0, 1, 3)", against.drop(0, 1, 3), 0);
        Check.due("a contradiction is forgotten", against.count(8), NONE);
    }

    // ---- promise 5

    private static void setUniform() {
        TripleSigns x = derivedPentagon();
        Check.due("setUniform(false)", x.setUniform(false), false);
        Check.due("derived ones are unknown all the same", x.count(3), 0);
        Check.due("setUniform(true)", x.setUniform(true), false);
        Check.due("the mode", x.count(9), 1);
        Check.due("setUniform(true)", x.setUniform(true), true);
        Check.due("setUniform(false)", x.setUniform(false), true);
        Check.due("the mode", x.count(9), 0);
        Check.due("undo()", x.undo(), 3);
        Check.due("the mode", x.count(9), 1);
        TripleSigns against = contradiction();
        against.setUniform(false);
        Check.due("a contradiction is forgotten", against.count(8), NONE);
        Check.due("given ones stay", against.count(2), 6);
    }

    // ---- promise 6

    private static void derive() {
        TripleSigns x = pentagon();
        Check.due("derive()", x.derive(), 1);
        Check.due("sign", x.triple(7, 3), 1);
        Check.due("kind", x.triple(7, 4), 2);
        Check.due("relation", x.triple(7, 5), 1);
        Check.due("step", x.triple(7, 6), 1);
        Check.due("reasons", x.reasons(7), 1 + 2 + 4 + 64 + 256);
        Check.due("derive() again", x.derive(), 0);
        Check.due("the step stays", x.triple(7, 6), 1);
        Check.due("undo()", x.undo(), 3);
        Check.due("undo()", x.undo(), 2);
        Check.due("before deriving", x.count(3), 0);
        Check.due("nothing follows from nothing", new TripleSigns().derive(), 0);
        Check.due("four points have no relation", points(4).derive(), 0);

        // Both other products are 0, so that 014 * 023 must be 0, which the uniform mode rules out.
        TripleSigns zero = new TripleSigns();
        zero.give(0, 1, 2, 0);
        zero.give(0, 1, 3, 0);
        zero.give(0, 3, 4, 1);
        zero.give(0, 2, 4, 1);
        zero.give(0, 2, 3, 1);
        Check.due("derive()", zero.derive(), 1);
        Check.due("a derived 0", zero.triple(2, 3), 0);
        Check.due("no contradiction", zero.count(8), NONE);
        zero.setUniform(true);
        Check.due("uniform: derive()", zero.derive(), 0);
        Check.due("uniform: 014 is unknown", zero.triple(2, 4), 0);
        Check.due("uniform: contradiction", zero.count(8), 0);
        zero.setUniform(false);
        Check.due("derive() again", zero.derive(), 1);

        // The other products are 1 and -1, so that any sign of 014 fits.
        TripleSigns free = new TripleSigns();
        free.give(0, 1, 2, 1);
        free.give(0, 3, 4, 1);
        free.give(0, 1, 3, 1);
        free.give(0, 2, 4, 1);
        free.give(0, 2, 3, 1);
        Check.due("derive()", free.derive(), 0);
        Check.due("no contradiction", free.count(8), NONE);
        // With -024 the second product is 1 as well: 014 has to be -1.
        free.give(0, 2, 4, -1);
        Check.due("derive()", free.derive(), 1);
        Check.due("014", free.triple(2, 3), -1);
        // With a partner of 0 the unknown triple changes nothing.
        free.give(0, 2, 3, 0);
        free.give(0, 2, 4, 1);
        Check.due("derive()", free.derive(), 0);
        Check.due("014", free.triple(2, 3), NONE);
    }

    private static void deriveEach() {
        // The products of relation 0 are those of 012, 034; 013, 024; 014, 023.
        int[][] pairs = {{0, 5}, {1, 4}, {2, 3}};
        for (int product = 0; product < 3; product++) {
            for (int sign = -1; sign <= 1; sign += 2) {
                for (int which = 0; which < 2; which++) {
                    for (int mode = 0; mode < 2; mode++) {
                        deriveOne(pairs, product, which, sign, mode == 1);
                    }
                }
            }
        }
    }

    /** Relation 0 with 0 in one product, and another one that is completed so that both add up to 0. */
    private static void deriveOne(int[][] pairs, int product, int which, int sign, boolean uniform) {
        TripleSigns x = new TripleSigns();
        x.setUniform(uniform);
        int unknown = pairs[product][which];
        int zero = (product + 1) % 3;
        int fixed = (product + 2) % 3;
        for (int p = 0; p < 3; p++) {
            for (int w = 0; w < 2; w++) {
                int t = pairs[p][w];
                if (t != unknown) {
                    int given = p == zero ? 0 : p == fixed && w == 1 ? sign : 1;
                    x.give(x.triple(t, 0), x.triple(t, 1), x.triple(t, 2), given);
                }
            }
        }
        // The second product counts with its sign turned.
        int due = product == 1 || fixed == 1 ? sign : -sign;
        Check.due("derive() of " + unknown, x.derive(), 1);
        Check.due("the sign of " + unknown, x.triple(unknown, 3), due);
        Check.due("the step of " + unknown, x.triple(unknown, 6), 1);
        Check.due("the reasons of " + unknown, x.reasons(unknown), 63 - (1 << unknown));
        Check.due("forget()", x.forget(), 1);
        Check.due("it is unknown", x.triple(unknown, 4), 0);
        // The other relations are fulfilled with 0 for all triples without 0.
        runOf(x, "zero bcd;zero bce;zero bde;zero cde;");
        Check.due("completions() without " + unknown, x.completions(), 1);
    }

    private static void deriveAgain() {
        TripleSigns x = contradictionFreeChain();
        Check.due("014", x.triple(2, 3), -1);
        Check.due("014: relation", x.triple(2, 5), 0);
        Check.due("014: step", x.triple(2, 6), 1);
        Check.due("014: reasons", x.reasons(2), 1 + 2 + 8 + 16 + 32);
        Check.due("134", x.triple(8, 3), 1);
        Check.due("134: relation", x.triple(8, 5), 1);
        Check.due("134: step", x.triple(8, 6), 2);
        // 012, 013, 123, 124, and what is behind 014.
        Check.due("134: reasons", x.reasons(8), 1 + 2 + 8 + 16 + 32 + 64 + 128);

        // Relation 0 can use 014 only once relation 1 has derived it, in the next round.
        TripleSigns later = new TripleSigns();
        later.give(0, 1, 2, 1);
        later.give(0, 1, 3, 1);
        later.give(1, 3, 4, 1);
        later.give(1, 2, 3, 1);
        later.give(1, 2, 4, 0);
        later.give(0, 2, 4, 1);
        later.give(0, 3, 4, 0);
        Check.due("derive()", later.derive(), 3);
        Check.due("014: sign", later.triple(2, 3), -1);
        Check.due("014: relation", later.triple(2, 5), 1);
        Check.due("014: step", later.triple(2, 6), 1);
        // Relation 4 comes first: 034 * 124 = 0, -024 * 134 = -1, so that 014 * 234 must be 1.
        Check.due("234: sign", later.triple(9, 3), -1);
        Check.due("234: relation", later.triple(9, 5), 4);
        Check.due("234: step", later.triple(9, 6), 2);
        // 012 * 034 = 0, -013 * 024 = -1, so that 014 * 023 must be 1.
        Check.due("023: sign", later.triple(3, 3), -1);
        Check.due("023: relation", later.triple(3, 5), 0);
        Check.due("023: step", later.triple(3, 6), 3);

        // Relation 3 derives 013 = 0, relation 4 leaves 024 open, and relation 1 (-012 * 134, 0 and 0)
        // derives 012 = 0 in the next round all the same.
        TripleSigns round = new TripleSigns();
        runOf(round, "plus abe;zero acd;plus ade;zero bcd;minus bce;plus bde;plus cde;");
        Check.due("derive()", round.derive(), 2);
        Check.due("013: relation", round.triple(1, 5), 3);
        Check.due("012: relation", round.triple(0, 5), 1);
        Check.due("012: sign", round.triple(0, 3), 0);
        Check.due("012: step", round.triple(0, 6), 2);

        // A later call goes on with the steps of those derived before.
        TripleSigns more = new TripleSigns();
        more.give(0, 1, 2, 1);
        more.give(0, 3, 4, 1);
        more.give(0, 1, 3, 0);
        more.give(0, 2, 4, 1);
        more.give(0, 2, 3, 1);
        Check.due("derive()", more.derive(), 1);
        more.give(1, 2, 3, 1);
        more.give(1, 2, 4, 1);
        Check.due("the derived one stays", more.count(3), 1);
        Check.due("derive() again", more.derive(), 1);
        Check.due("the step goes on", more.triple(8, 6), 2);
    }

    private static void deriveContradicts() {
        TripleSigns x = contradiction();
        Check.due("the relation of the contradiction", x.count(8), 0);
        Check.due("derive()", x.derive(), 0);
        Check.due("the same contradiction", x.count(8), 0);
        // The products of relation 0 are 0, 0 and 014 * 023 = 1.
        TripleSigns late = pentagon();
        late.give(0, 1, 2, 0);
        late.give(0, 1, 3, 0);
        Check.due("derive()", late.derive(), 0);
        Check.due("one product alone", late.count(8), 0);
        TripleSigns one = new TripleSigns();
        one.give(0, 1, 2, 1);
        one.give(0, 3, 4, 1);
        one.give(0, 1, 3, 0);
        one.give(0, 2, 4, 1);
        one.give(0, 2, 3, 1);
        one.give(1, 3, 4, -1);
        one.give(1, 2, 4, 1);
        one.give(1, 2, 3, 1);
        // 014 = -1 by relation 0; relation 1 has then 1, 0 and 1.
        Check.due("one triple before the contradiction", one.derive(), 1);
        Check.due("014", one.triple(2, 3), -1);
        Check.due("the contradiction", one.count(8), 1);

        // Relation 1 derives 014 = 1; then relation 3 has 0 * 234, 1 and 1. The next call finds that
        // relation 0 has -1, 0 * 024 and -1 by now.
        TripleSigns other = new TripleSigns();
        runOf(other, "plus abc;zero abd;minus acd;minus ade;plus bcd;plus bce;minus bde;");
        Check.due("derive()", other.derive(), 1);
        Check.due("the contradiction", other.count(8), 3);
        Check.due("derive() again", other.derive(), 0);
        Check.due("another contradiction", other.count(8), 0);

        // Relation 1 derives 014 = 0; then relation 2 has 1, 0 and 1, which ends deriving at once.
        // The next call derives 034 from relation 0 (-034, 1 and 0) before it comes there.
        TripleSigns more = new TripleSigns();
        runOf(more, "minus abc;plus abd;plus acd;minus ace;minus bcd;zero bce;zero bde;minus cde;");
        Check.due("derive()", more.derive(), 1);
        Check.due("034 is unknown", more.triple(5, 3), NONE);
        Check.due("the contradiction", more.count(8), 2);
        Check.due("derive() again", more.derive(), 1);
        Check.due("034", more.triple(5, 3), 1);
        Check.due("034: step", more.triple(5, 6), 2);
        Check.due("the same contradiction", more.count(8), 2);

        // Relation 2 derives 124 = -1; then relation 3 has -1, -1 and 0. In the next call relation 1
        // comes first, with -1, -1 and 0.
        TripleSigns third = new TripleSigns();
        runOf(third, "minus abc;plus abd;plus acd;plus ace;zero bcd;minus bde;plus cde;");
        Check.due("derive()", third.derive(), 1);
        Check.due("the contradiction", third.count(8), 3);
        Check.due("derive() again", third.derive(), 0);
        Check.due("another contradiction", third.count(8), 1);
    }

    // ---- promise 7

    private static void forget() {
        TripleSigns x = contradictionFreeChain();
        Check.due("forget()", x.forget(), 2);
        Check.due("derived", x.count(3), 0);
        Check.due("given", x.count(2), 7);
        Check.due("the relation", x.triple(2, 5), NONE);
        Check.due("the step", x.triple(2, 6), NONE);
        Check.due("the reasons", x.reasons(2), 0);
        Check.due("forget() again", x.forget(), 0);
        TripleSigns against = contradiction();
        Check.due("forget()", against.forget(), 0);
        Check.due("no contradiction", against.count(8), NONE);
        Check.due("undo()", against.undo(), 3);
        Check.due("the contradiction again", against.count(8), 0);
    }

    // ---- promise 8

    private static void mirror() {
        TripleSigns x = contradictionFreeChain();
        Check.due("mirror()", x.mirror(), 9);
        Check.due("012", x.triple(0, 3), -1);
        Check.due("013", x.triple(1, 3), 0);
        Check.due("014", x.triple(2, 3), 1);
        Check.due("234", x.triple(9, 3), NONE);
        Check.due("014 is derived", x.triple(2, 4), 2);
        Check.due("014: relation", x.triple(2, 5), 0);
        Check.due("014: step", x.triple(2, 6), 1);
        Check.due("014: reasons", x.reasons(2), 59);
        Check.due("012 is given", x.triple(0, 4), 1);
        TripleSigns against = contradiction();
        Check.due("mirror()", against.mirror(), 6);
        Check.due("the contradiction stays", against.count(8), 0);
        Check.due("mirror() of nothing", new TripleSigns().mirror(), 0);
    }

    // ---- promise 9

    private static void turn() {
        TripleSigns x = contradictionFreeChain();
        // With a sign: 014 (derived), 034, 024, 124, 134 (derived); 234 is unknown.
        Check.due("turn(4)", x.turn(4), 5);
        Check.due("012", x.triple(0, 3), 1);
        Check.due("014", x.triple(2, 3), 1);
        Check.due("024", x.triple(4, 3), -1);
        Check.due("034", x.triple(5, 3), -1);
        Check.due("134", x.triple(8, 3), -1);
        Check.due("123", x.triple(6, 3), 1);
        Check.due("234", x.triple(9, 3), NONE);
        Check.due("014 is derived", x.triple(2, 4), 2);
        Check.due("134: step", x.triple(8, 6), 2);
        Check.due("turn(0)", x.turn(0), 6);
        Check.due("012", x.triple(0, 3), -1);
        Check.due("turn(1)", x.turn(1), 6);
        Check.due("012", x.triple(0, 3), 1);
        TripleSigns against = contradiction();
        Check.due("turn(3)", against.turn(3), 3);
        Check.due("the contradiction stays", against.count(8), 0);
        for (int wrong : new int[] {-1, 5, MAX, MIN}) {
            Check.dueThrow("turn(" + wrong + ")", IOOBE, () -> x.turn(wrong));
        }
    }

    // ---- promise 10

    private static void exchange() {
        TripleSigns x = new TripleSigns();
        x.give(0, 1, 2, 1);
        x.give(0, 1, 3, -1);
        x.give(2, 3, 4, 0);
        x.place(1, 7, 8);
        Check.due("exchange(1, 4)", x.exchange(1, 4), 3);
        Check.due("sign(0, 4, 2)", x.sign(0, 4, 2), 1);
        Check.due("024", x.triple(4, 3), -1);
        Check.due("034", x.triple(5, 3), 1);
        Check.due("123", x.triple(6, 3), 0);
        Check.due("012", x.triple(0, 4), 0);
        Check.due("024 is given", x.triple(4, 4), 1);
        Check.due("024: reasons", x.reasons(4), 16);
        Check.due("x of 4", x.coordinate(4, 0), 7);
        Check.due("y of 4", x.coordinate(4, 1), 8);
        Check.due("x of 1", x.coordinate(1, 0), NONE);
        Check.due("y of 1", x.coordinate(1, 1), NONE);
        x.undo();
        Check.due("012 again", x.triple(0, 3), 1);
        Check.due("x of 1 again", x.coordinate(1, 0), 7);

        TripleSigns both = new TripleSigns();
        both.give(0, 1, 2, 1);
        both.place(0, 1, 2);
        both.place(1, 3, 4);
        Check.due("exchange(1, 0)", both.exchange(1, 0), 1);
        Check.due("a triple with both turns", both.triple(0, 3), -1);
        Check.due("x of 0", both.coordinate(0, 0), 3);
        Check.due("y of 1", both.coordinate(1, 1), 2);

        TripleSigns derived = derivedPentagon();
        Check.due("exchange(0, 4)", derived.exchange(0, 4), 8);
        Check.due("derived ones are unknown", derived.count(3), 0);
        Check.due("unknown: 012 (124 before)", derived.triple(0, 4), 0);
        Check.due("unknown: 023 (234 before)", derived.triple(3, 4), 0);
        TripleSigns against = contradiction();
        against.exchange(3, 4);
        Check.due("a contradiction is forgotten", against.count(8), NONE);
        for (int wrong : new int[] {-1, 5, MAX, MIN}) {
            Check.dueThrow("exchange(" + wrong + ", 0)", IOOBE, () -> x.exchange(wrong, 0));
            Check.dueThrow("exchange(0, " + wrong + ")", IOOBE, () -> x.exchange(0, wrong));
        }
        Check.dueThrow("exchange(5, 5)", IOOBE, () -> x.exchange(5, 5));
        Check.dueThrow("exchange(4, 4)", IAE, () -> x.exchange(4, 4));
    }

    // ---- promise 11

    private static void sign() {
        TripleSigns x = new TripleSigns();
        x.give(1, 2, 4, 1);
        int[][] even = {{1, 2, 4}, {2, 4, 1}, {4, 1, 2}};
        int[][] odd = {{2, 1, 4}, {1, 4, 2}, {4, 2, 1}};
        for (int o = 0; o < 3; o++) {
            Check.due("an even order", x.sign(even[o][0], even[o][1], even[o][2]), 1);
            Check.due("an odd order", x.sign(odd[o][0], odd[o][1], odd[o][2]), -1);
        }
        x.give(1, 2, 4, 0);
        Check.due("sign 0", x.sign(2, 1, 4), 0);
        Check.due("unknown", x.sign(2, 1, 0), NONE);
        Check.due("unknown", x.sign(0, 1, 2), NONE);
        Check.due("equal points", x.sign(0, 0, 1), 0);
        Check.due("equal points", x.sign(0, 1, 0), 0);
        Check.due("equal points", x.sign(1, 0, 0), 0);
        Check.due("equal points", x.sign(3, 3, 3), 0);
        for (int wrong : new int[] {-1, 5, MAX, MIN}) {
            Check.dueThrow("sign(" + wrong + ", 0, 1)", IOOBE, () -> x.sign(wrong, 0, 1));
            Check.dueThrow("sign(0, " + wrong + ", 0)", IOOBE, () -> x.sign(0, wrong, 0));
            Check.dueThrow("sign(0, 0, " + wrong + ")", IOOBE, () -> x.sign(0, 0, wrong));
        }
        TripleSigns small = points(8);
        small.begin(3);
        Check.dueThrow("sign(0, 1, 3) of three", IOOBE, () -> small.sign(0, 1, 3));
    }

    // ---- promise 12

    private static void triple() {
        for (int n = 3; n <= 8; n++) {
            TripleSigns x = points(n);
            int t = 0;
            for (int i = 0; i < n; i++) {
                for (int j = i + 1; j < n; j++) {
                    for (int k = j + 1; k < n; k++) {
                        Check.due("first point of " + t, x.triple(t, 0), i);
                        Check.due("second point of " + t, x.triple(t, 1), j);
                        Check.due("third point of " + t, x.triple(t, 2), k);
                        x.give(i, j, k, 1);
                        Check.due("sign of " + t, x.triple(t, 3), 1);
                        t++;
                    }
                }
            }
            int beyond = t;
            Check.dueThrow("triple(" + t + ", 0)", IOOBE, () -> x.triple(beyond, 0));
        }
        TripleSigns x = derivedPentagon();
        int[] given = {0, 1, 2, 1, 1, NONE, NONE};
        int[] derived = {1, 2, 4, 1, 2, 1, 1};
        int[] unknown = {2, 3, 4, NONE, 0, NONE, NONE};
        for (int what = 0; what <= 6; what++) {
            Check.due("triple(0, " + what + ")", x.triple(0, what), given[what]);
            Check.due("triple(7, " + what + ")", x.triple(7, what), derived[what]);
            Check.due("triple(9, " + what + ")", x.triple(9, what), unknown[what]);
        }
        for (int wrong : new int[] {-1, 7, MAX, MIN}) {
            Check.dueThrow("triple(0, " + wrong + ")", IAE, () -> x.triple(0, wrong));
            Check.dueThrow("triple(10, " + wrong + ")", IOOBE, () -> x.triple(10, wrong));
        }
        for (int wrong : new int[] {-1, 10, MAX, MIN}) {
            Check.dueThrow("triple(" + wrong + ", 0)", IOOBE, () -> x.triple(wrong, 0));
        }
    }

    // ---- promise 13

    private static void reasons() {
        TripleSigns x = derivedPentagon();
        for (int t = 0; t <= 6; t++) {
            Check.due("reasons of a given one", x.reasons(t), 1 << t);
        }
        Check.due("reasons of a derived one", x.reasons(7), 327);
        Check.due("reasons of an unknown one", x.reasons(9), 0);
        TripleSigns eight = points(8);
        eight.give(5, 6, 7, 1);
        Check.due("reasons of the last one", eight.reasons(55), 1L << 55);
        eight.give(1, 6, 7, 0);
        Check.due("reasons of a given one", eight.reasons(35), 1L << 35);
        for (int wrong : new int[] {-1, 10, 56, MAX, MIN}) {
            Check.dueThrow("reasons(" + wrong + ")", IOOBE, () -> x.reasons(wrong));
        }
        Check.dueThrow("reasons(56)", IOOBE, () -> eight.reasons(56));
    }

    // ---- promise 14

    private static void count() {
        TripleSigns x = contradictionFreeChain();
        // Relations 0 and 1 are complete and fulfilled; the others lack 234.
        int[] counts = {5, 10, 7, 2, 1, 5, 2, 0, NONE, 0};
        for (int what = 0; what <= 9; what++) {
            Check.due("count(" + what + ")", x.count(what), counts[what]);
        }
        TripleSigns against = contradiction();
        int[] others = {5, 10, 6, 0, 4, 5, 1, 1, 0, 0};
        for (int what = 0; what <= 9; what++) {
            Check.due("count(" + what + ")", against.count(what), others[what]);
        }
        for (int wrong : new int[] {-1, 10, MAX, MIN}) {
            Check.dueThrow("count(" + wrong + ")", IAE, () -> x.count(wrong));
        }
    }

    // ---- promise 15

    private static void relation() {
        for (int n = 5; n <= 8; n++) {
            TripleSigns x = points(n);
            int r = 0;
            for (int a = 0; a < n; a++) {
                for (int code = 0; code < 4096; code++) {
                    int b = code >> 9;
                    int c = code >> 6 & 7;
                    int d = code >> 3 & 7;
                    int e = code & 7;
                    boolean rises = b < c && c < d && d < e && e < n;
                    if (rises && a != b && a != c && a != d && a != e) {
                        Check.due("a of " + r, x.relation(r, 0), a);
                        Check.due("b of " + r, x.relation(r, 1), b);
                        Check.due("c of " + r, x.relation(r, 2), c);
                        Check.due("d of " + r, x.relation(r, 3), d);
                        Check.due("e of " + r, x.relation(r, 4), e);
                        Check.due("unknown in " + r, x.relation(r, 5), 6);
                        Check.due("verdict of " + r, x.relation(r, 6), 0);
                        r++;
                    }
                }
            }
            int beyond = r;
            Check.dueThrow("relation(" + r + ", 0)", IOOBE, () -> x.relation(beyond, 0));
        }
        TripleSigns x = contradiction();
        Check.due("none unknown", x.relation(0, 5), 0);
        Check.due("violated", x.relation(0, 6), -1);
        Check.due("123, 124, 134 are unknown", x.relation(1, 5), 3);
        x.give(0, 1, 3, 1);
        Check.due("1, -1 and 0 are fulfilled", x.relation(0, 6), 1);
        x.give(0, 1, 4, -1);
        Check.due("1, -1 and -1 are fulfilled", x.relation(0, 6), 1);
        x.give(0, 1, 2, -1);
        Check.due("-1, -1 and -1 are violated", x.relation(0, 6), -1);
        x.give(0, 1, 2, 0);
        x.give(0, 1, 3, 0);
        Check.due("0, 0 and -1 are violated", x.relation(0, 6), -1);
        x.give(0, 1, 4, 0);
        Check.due("0, 0 and 0 are fulfilled", x.relation(0, 6), 1);
        x.give(0, 1, 3, -1);
        x.give(0, 1, 4, 1);
        Check.due("0, 1 and 1 are violated", x.relation(0, 6), -1);
        x.drop(0, 3, 4);
        Check.due("one unknown", x.relation(0, 5), 1);
        Check.due("one unknown", x.relation(0, 6), 0);
        for (int wrong : new int[] {-1, 7, MAX, MIN}) {
            Check.dueThrow("relation(0, " + wrong + ")", IAE, () -> x.relation(0, wrong));
            Check.dueThrow("relation(5, " + wrong + ")", IOOBE, () -> x.relation(5, wrong));
        }
        for (int wrong : new int[] {-1, 5, MAX, MIN}) {
            Check.dueThrow("relation(" + wrong + ", 0)", IOOBE, () -> x.relation(wrong, 0));
        }
        Check.dueThrow("no relation of three", IOOBE, () -> points(3).relation(0, 0));
        Check.dueThrow("no relation of four", IOOBE, () -> points(4).relation(0, 0));
    }

    // ---- promise 16

    private static void behind() {
        TripleSigns x = derivedPentagon();
        Check.due("given ones", x.behind(0), 63);
        Check.due("with a derived one", x.behind(1), 327);
        // 012, 023, 024, 123, 124 (derived: 327) and 234 (unknown).
        Check.due("with an unknown one", x.behind(2), 1 | 8 | 16 | 64 | 327);
        Check.due("nothing", new TripleSigns().behind(4), 0);
        for (int wrong : new int[] {-1, 5, MAX, MIN}) {
            Check.dueThrow("behind(" + wrong + ")", IOOBE, () -> x.behind(wrong));
        }
        TripleSigns eight = points(8);
        eight.give(5, 6, 7, 1);
        Check.due("the last triple", eight.behind(279), 1L << 55);
        Check.dueThrow("behind(280)", IOOBE, () -> eight.behind(280));
    }

    // ---- promise 17

    private static void completions() {
        Check.due("three points", points(3).completions(), 2);
        Check.due("four points", points(4).completions(), 16);
        TripleSigns x = new TripleSigns();
        // There are 384 uniform chirotopes of rank 3 on five points.
        Check.due("five points", x.completions(), 384);
        long digest = x.digest();
        x.completions();
        Check.due("nothing changes", x.digest(), digest);
        x.setUniform(true);
        Check.due("uniform", x.completions(), 384);
        TripleSigns derived = derivedPentagon();
        Check.due("one unknown, both fit", derived.completions(), 2);
        derived.give(2, 3, 4, 1);
        Check.due("none unknown", derived.completions(), 1);
        Check.due("a violated relation", contradiction().completions(), 0);
        TripleSigns violated = contradiction();
        violated.give(1, 2, 3, 1);
        violated.give(1, 2, 4, 1);
        violated.give(1, 3, 4, 1);
        violated.give(2, 3, 4, 1);
        Check.due("a violated relation, none unknown", violated.completions(), 0);

        // With 0 for all triples without 0 only relation 0 can be violated.
        TripleSigns lone = contradiction();
        runOf(lone, "zero bcd;zero bce;zero bde;");
        Check.due("one relation is violated", lone.completions(), 0);
        runOf(lone, "zero cde;");
        Check.due("one relation is violated", lone.count(7), 1);
        Check.due("one relation is violated", lone.completions(), 0);
        lone.drop(0, 1, 2);
        Check.due("violated with 1, 0 and 0 as with -1", lone.completions(), 0);
        runOf(lone, "plus abe;");
        Check.due("the first triple of the first relation", lone.completions(), 1);
        runOf(lone, "drop abe;drop abd;");
        // 012 + 014 - 013: 2 * 2 * 2 ways less the two with one sign for all products.
        Check.due("three unknown", lone.completions(), 6);

        // 0 is no way: 0 + 0 + 014 * 023 leaves none.
        TripleSigns zero = new TripleSigns();
        zero.give(0, 1, 2, 0);
        zero.give(0, 1, 3, 0);
        zero.give(0, 3, 4, 1);
        zero.give(0, 2, 4, 1);
        zero.give(0, 2, 3, 1);
        Check.due("no way", zero.completions(), 0);

        TripleSigns six = points(6);
        Check.dueThrow("20 unknown", ISE, six::completions);
        for (int k = 2; k <= 5; k++) {
            for (int j = 1; j < k; j++) {
                six.give(0, j, k, 1);
            }
        }
        // With all of them plus the others lie in one order round 0; then the ways are the simple
        // arrangements of five pseudolines, of which there are 62.
        Check.due("ten unknown", six.completions(), 62);
        six.drop(0, 1, 2);
        Check.dueThrow("eleven unknown", ISE, six::completions);
    }

    // ---- promise 18

    private static void cocircuit() {
        TripleSigns x = square();
        x.place(4, 4, 5);
        x.read();
        // Of the line 02: 1 on the right (-1: 2 * 4), 3 and 4 on the left (64 + 256).
        Check.due("cocircuit(0, 2)", x.cocircuit(0, 2), 8 + 64 + 256);
        Check.due("cocircuit(2, 0)", x.cocircuit(2, 0), 4 + 128 + 512);
        Check.due("cocircuit(0, 1)", x.cocircuit(0, 1), 16 + 64 + 256);
        Check.due("cocircuit(1, 0)", x.cocircuit(1, 0), 32 + 128 + 512);
        x.place(4, 5, 5);
        x.read();
        Check.due("4 on the line", x.cocircuit(0, 2), 8 + 64);
        x.drop(0, 1, 2);
        Check.dueThrow("an unknown sign", ISE, () -> x.cocircuit(0, 1));
        Check.dueThrow("an unknown sign", ISE, () -> x.cocircuit(2, 1));
        Check.due("without it", x.cocircuit(3, 4), 2 + 16);
        TripleSigns eight = points(8);
        for (int p = 0; p <= 5; p++) {
            eight.give(p, 6, 7, 0);
        }
        Check.due("all 0", eight.cocircuit(6, 7), 0);
        eight.give(0, 6, 7, -1);
        eight.give(5, 6, 7, -1);
        Check.due("the points 0 and 5", eight.cocircuit(7, 6), 1 + 1024);
        for (int wrong : new int[] {-1, 5, MAX, MIN}) {
            Check.dueThrow("cocircuit(" + wrong + ", 0)", IOOBE, () -> x.cocircuit(wrong, 0));
            Check.dueThrow("cocircuit(0, " + wrong + ")", IOOBE, () -> x.cocircuit(0, wrong));
        }
        Check.dueThrow("cocircuit(5, 5)", IOOBE, () -> x.cocircuit(5, 5));
        Check.dueThrow("cocircuit(0, 0)", IAE, () -> x.cocircuit(0, 0));
    }

    // ---- promise 19

    private static void isExtreme() {
        TripleSigns x = square();
        x.place(4, 4, 5);
        Check.due("nothing known", x.isExtreme(0), false);
        x.read();
        for (int p = 0; p < 4; p++) {
            Check.due("isExtreme(" + p + ")", x.isExtreme(p), true);
        }
        Check.due("isExtreme(4)", x.isExtreme(4), false);
        x.drop(0, 1, 2);
        x.drop(0, 3, 4);
        Check.due("no line through 0 is known", x.isExtreme(0), false);
        Check.due("12 is known", x.isExtreme(1), false);
        Check.due("23 is known", x.isExtreme(2), true);
        // All on one line: no line with a side.
        TripleSigns flat = points(4);
        flat.give(0, 1, 2, 0);
        flat.give(0, 1, 3, 0);
        flat.give(0, 2, 3, 0);
        flat.give(1, 2, 3, 0);
        Check.due("all signs are 0", flat.isExtreme(0), false);
        flat.give(1, 2, 3, -1);
        Check.due("some sign is 0", flat.isExtreme(1), true);
        Check.due("those of 0 are 0", flat.isExtreme(0), false);
        // Of all lines only 01 is known.
        TripleSigns one = new TripleSigns();
        runOf(one, "plus abc;plus abd;zero abe;");
        Check.due("by the line 01", one.isExtreme(0), true);
        Check.due("by the line 10", one.isExtreme(1), true);
        Check.due("by no line", one.isExtreme(2), false);
        runOf(one, "minus abe;");
        Check.due("on both sides", one.isExtreme(1), false);
        TripleSigns three = points(3);
        Check.due("unknown", three.isExtreme(0), false);
        three.give(0, 1, 2, 1);
        Check.due("three points", three.isExtreme(2), true);
        for (int wrong : new int[] {-1, 5, MAX, MIN}) {
            Check.dueThrow("isExtreme(" + wrong + ")", IOOBE, () -> x.isExtreme(wrong) ? 1 : 0);
        }
    }

    // ---- promise 20

    private static void lines() {
        TripleSigns x = square();
        x.place(4, 4, 5);
        x.read();
        Check.due("ten lines", x.lines(), 10);
        x.place(4, 5, 5);
        x.read();
        Check.due("both diagonals through 4", x.lines(), 6);
        x.drop(0, 1, 2);
        Check.dueThrow("an unknown triple", ISE, x::lines);
        TripleSigns three = points(3);
        Check.dueThrow("an unknown triple", ISE, three::lines);
        three.give(0, 1, 2, 0);
        Check.due("one line", three.lines(), 1);
        three.give(0, 1, 2, 1);
        Check.due("three lines", three.lines(), 3);
        TripleSigns eight = points(8);
        for (int p = 0; p < 8; p++) {
            eight.place(p, p, p * p);
        }
        Check.due("read()", eight.read(), 56);
        Check.due("28 lines", eight.lines(), 28);
        TripleSigns odd = new TripleSigns();
        runOf(odd, "zero abc;zero abd;plus abe;plus acd;plus ace;plus ade;zero bcd;");
        runOf(odd, "plus bce;plus bde;plus cde;");
        // 0123 (of 01, 12 and 13), 012, 013, 123 (of 23), and four of two points.
        Check.due("lines that fit no points", odd.lines(), 8);

        // The line 01 has 2 then, 02 has 1 and 12 has 0: one line of three.
        eight.give(0, 1, 2, 0);
        Check.due("26 lines", eight.lines(), 26);
    }

    // ---- promise 21

    private static void place() {
        TripleSigns x = new TripleSigns();
        Check.due("place(4, -50, 50)", x.place(4, -50, 50), false);
        Check.due("x", x.coordinate(4, 0), -50);
        Check.due("y", x.coordinate(4, 1), 50);
        Check.due("place(4, 50, -50)", x.place(4, 50, -50), true);
        Check.due("x", x.coordinate(4, 0), 50);
        Check.due("y", x.coordinate(4, 1), -50);
        Check.due("the others have none", x.coordinate(3, 0), NONE);
        Check.due("undo()", x.undo(), 1);
        Check.due("x", x.coordinate(4, 0), -50);
        Check.due("undo()", x.undo(), 0);
        Check.due("x", x.coordinate(4, 0), NONE);
        for (int wrong : new int[] {-51, 51, NONE, MAX, MIN}) {
            Check.dueThrow("place(0, " + wrong + ", 0)", IAE, () -> x.place(0, wrong, 0) ? 1 : 0);
            Check.dueThrow("place(0, 0, " + wrong + ")", IAE, () -> x.place(0, 0, wrong) ? 1 : 0);
            Check.dueThrow("place(5, 0, " + wrong + ")", IOOBE, () -> x.place(5, 0, wrong) ? 1 : 0);
        }
        for (int wrong : new int[] {-1, 5, MAX, MIN}) {
            Check.dueThrow("place(" + wrong + ", 0, 0)", IOOBE, () -> x.place(wrong, 0, 0) ? 1 : 0);
        }
    }

    // ---- promise 22

    private static void coordinate() {
        TripleSigns x = new TripleSigns();
        x.place(2, 3, -4);
        Check.due("coordinate(2, 0)", x.coordinate(2, 0), 3);
        Check.due("coordinate(2, 1)", x.coordinate(2, 1), -4);
        Check.due("coordinate(1, 0)", x.coordinate(1, 0), NONE);
        Check.due("coordinate(1, 1)", x.coordinate(1, 1), NONE);
        for (int wrong : new int[] {-1, 2, MAX, MIN}) {
            Check.dueThrow("coordinate(0, " + wrong + ")", IAE, () -> x.coordinate(0, wrong));
            Check.dueThrow("coordinate(5, " + wrong + ")", IOOBE, () -> x.coordinate(5, wrong));
        }
        for (int wrong : new int[] {-1, 5, MAX, MIN}) {
            Check.dueThrow("coordinate(" + wrong + ", 0)", IOOBE, () -> x.coordinate(wrong, 0));
        }
    }

    // ---- promise 23

    private static void read() {
        TripleSigns x = new TripleSigns();
        Check.due("read() of nothing", x.read(), 0);
        x.place(0, 0, 0);
        x.place(2, 4, 0);
        Check.due("two points", x.read(), 0);
        x.place(3, 1, 5);
        Check.due("three points", x.read(), 1);
        Check.due("023", x.triple(3, 3), 1);
        Check.due("023 is given", x.triple(3, 4), 1);
        Check.due("the same again", x.read(), 1);
        x.place(3, 1, -5);
        Check.due("the other side", x.read(), 1);
        Check.due("023", x.triple(3, 3), -1);
        x.place(3, -7, 0);
        x.read();
        Check.due("on the line", x.triple(3, 3), 0);
        Check.due("one state a call", x.undo(), 3);
        Check.due("023", x.triple(3, 3), -1);

        // A read that changes nothing keeps derived triples, as give() does.
        TripleSigns derived = derivedPentagon();
        derived.place(0, 0, 0);
        derived.place(1, 4, 0);
        derived.place(2, 5, 4);
        Check.due("012 as it is", derived.read(), 1);
        Check.due("124 stays derived", derived.triple(7, 4), 2);
        derived.place(2, 5, -4);
        Check.due("012 changes", derived.read(), 1);
        Check.due("124 is unknown", derived.triple(7, 4), 0);

        // A derived triple becomes a given one.
        TripleSigns given = derivedPentagon();
        given.place(1, 4, 0);
        given.place(2, 5, 4);
        given.place(4, -2, 3);
        Check.due("124 as it is", given.read(), 1);
        Check.due("124 is given", given.triple(7, 4), 1);

        TripleSigns against = contradiction();
        against.place(0, 0, 0);
        against.place(1, 4, 0);
        against.place(2, 5, 4);
        against.read();
        Check.due("nothing changes", against.count(8), 0);
        against.place(0, -10, 3);
        against.place(3, 0, 5);
        Check.due("four points", against.read(), 4);
        Check.due("the contradiction is forgotten", against.count(8), NONE);

        TripleSigns far = points(3);
        far.place(0, -50, -50);
        far.place(1, 50, -50);
        far.place(2, 50, 50);
        far.read();
        Check.due("the greatest triangle", far.sign(0, 1, 2), 1);
    }

    // ---- promise 24

    private static void mismatches() {
        TripleSigns x = square();
        Check.due("no signs", x.mismatches(), 0);
        x.read();
        Check.due("as read", x.mismatches(), 0);
        x.give(0, 1, 2, 0);
        Check.due("one sign", x.mismatches(), 1);
        x.give(2, 1, 3, 1);
        Check.due("two signs", x.mismatches(), 2);
        x.give(0, 1, 4, 1);
        Check.due("4 has no coordinates", x.mismatches(), 2);
        x.place(4, 5, -1);
        Check.due("014 is -1 there", x.mismatches(), 3);
        TripleSigns derived = derivedPentagon();
        derived.place(1, 0, 0);
        derived.place(2, 0, 4);
        derived.place(4, 5, 5);
        Check.due("a derived triple counts", derived.mismatches(), 1);
    }

    // ---- promise 25

    private static void scatter() {
        TripleSigns x = new TripleSigns();
        // s = 12345 and 1406932606 for the first point, of which s / 65536 is 0 and 21468.
        Check.due("scatter(0, 1, 50)", x.scatter(0, 1, 50), 0);
        Check.due("x of 0", x.coordinate(0, 0), -50);
        Check.due("y of 0", x.coordinate(0, 1), 21468 % 101 - 50);
        long s = 0;
        for (int p = 0; p < 5; p++) {
            for (int what = 0; what < 2; what++) {
                s = (1103515245L * s + 12345L) % 2147483648L;
                Check.due("a coordinate", x.coordinate(p, what), s / 65536 % 101 - 50);
            }
        }
        // Without signs the first placement is the best one.
        TripleSigns first = new TripleSigns();
        first.scatter(0, 50, 50);
        for (int p = 0; p < 5; p++) {
            Check.due("the first of fifty", first.coordinate(p, 0), x.coordinate(p, 0));
            Check.due("the first of fifty", first.coordinate(p, 1), x.coordinate(p, 1));
        }
        Check.due("undo()", first.undo(), 0);
        Check.due("no coordinates", first.coordinate(0, 0), NONE);

        // The second placement goes on with s, and is taken where the first one is worse.
        TripleSigns second = points(3);
        long[] at = new long[12];
        long t = 4;
        for (int c = 0; c < 12; c++) {
            t = (1103515245L * t + 12345L) % 2147483648L;
            at[c] = t / 65536 % 5 - 2;
        }
        int before = area(at, 0);
        int after = area(at, 6);
        Check.due("the two placements differ", before != after, true);
        second.give(0, 1, 2, after);
        Check.due("scatter(4, 1, 2)", second.scatter(4, 1, 2), 1);
        Check.due("mismatches()", second.mismatches(), 1);
        Check.due("scatter(4, 2, 2)", second.scatter(4, 2, 2), 0);
        Check.due("mismatches()", second.mismatches(), 0);
        for (int c = 0; c < 6; c++) {
            Check.due("the second one", second.coordinate(c / 2, c % 2), at[6 + c]);
        }
        for (int wrong : new int[] {-1, 1000000, MAX, MIN}) {
            Check.dueThrow("scatter(" + wrong + ", 1, 1)", IAE, () -> x.scatter(wrong, 1, 1));
        }
        for (int wrong : new int[] {-1, 0, 51, MAX, MIN}) {
            Check.dueThrow("scatter(0, " + wrong + ", 1)", IAE, () -> x.scatter(0, wrong, 1));
            Check.dueThrow("scatter(0, 1, " + wrong + ")", IAE, () -> x.scatter(0, 1, wrong));
        }
        Check.due("scatter(999999, 50, 1)", x.scatter(999999, 50, 1), 0);
        Check.due("scatter(0, 1, 1)", x.scatter(0, 1, 1), 0);
    }

    private static int area(long[] at, int from) {
        return Long.signum((at[from + 2] - at[from]) * (at[from + 5] - at[from + 1])
                - (at[from + 3] - at[from + 1]) * (at[from + 4] - at[from]));
    }

    // ---- promise 26

    private static void type() {
        TripleSigns x = new TripleSigns();
        Check.due("type(0)", x.type(0), 1);
        Check.due("type(127)", x.type(127), 2);
        for (int wrong : new int[] {-1, 128, MAX, MIN}) {
            Check.dueThrow("type(" + wrong + ")", IAE, () -> x.type(wrong));
        }
        for (int length = 3; length <= 120; length++) {
            Check.due("type(32)", x.type(32), length);
        }
        Check.dueThrow("type(32) of a full script", ISE, () -> x.type(32));
        Check.dueThrow("type(128) of a full script", IAE, () -> x.type(128));
        Check.due("the length", x.clearScript(), 120);
        Check.dueThrow("it is not undoable", ISE, x::undo);
    }

    // ---- promise 27

    private static void clearScript() {
        TripleSigns x = new TripleSigns();
        Check.due("clearScript() of nothing", x.clearScript(), 0);
        write(x, "derive;");
        Check.due("clearScript()", x.clearScript(), 7);
        Check.due("clearScript() again", x.clearScript(), 0);
        Check.dueThrow("it is not undoable", ISE, x::undo);
        Check.due("type(59)", x.type(59), 1);
    }

    // ---- promise 28

    private static void run() {
        TripleSigns x = new TripleSigns();
        Check.due("run()", runOf(x, "plus bac;minus abd ;  zero  dea;drop eda;"), 4);
        Check.due("012", x.triple(0, 3), -1);
        Check.due("013", x.triple(1, 3), -1);
        Check.due("034", x.triple(5, 3), NONE);
        Check.due("run()", runOf(x, "zero dea;"), 1);
        Check.due("034", x.triple(5, 3), 0);
        x.undo();
        Check.due("run()", runOf(x, "plus bac;minus abd ;  zero  dea;drop eda;"), 4);
        Check.due("the script stays", x.clearScript(), 41);
        Check.due("undo()", x.undo(), 1);
        Check.due("undo()", x.undo(), 0);
        Check.due("012", x.triple(0, 3), NONE);

        TripleSigns deriving = pentagon();
        Check.due("run()", runOf(deriving, "derive;mirror;"), 2);
        Check.due("124", deriving.triple(7, 3), -1);
        Check.due("124 is derived", deriving.triple(7, 4), 2);
        Check.due("run()", runOf(deriving, "plus cde;drop abc;"), 2);
        Check.due("124 is unknown", deriving.triple(7, 4), 0);
        Check.due("one state a run", deriving.undo(), 3);
        Check.due("124 is derived", deriving.triple(7, 4), 2);
        Check.due("234 is unknown", deriving.triple(9, 4), 0);
        Check.due("012", deriving.triple(0, 3), -1);

        dueRun("", 0);
        dueRun("   ", 0);
        dueRun("derive;", 1);
        dueRun("  derive  ;  mirror ;  ", 2);
        dueRun("plus    abc    ;", 1);
        dueRun("zero abc;zero abd;zero abe;zero acd;zero ace;zero ade;zero bcd;zero bce;", 8);
        StringBuilder full = new StringBuilder();
        for (int c = 0; c < 17; c++) {
            full.append("derive;");
        }
        dueRun(full + " ", 17);
        dueRun(full.toString(), 17);

        TripleSigns empty = new TripleSigns();
        Check.due("run() of nothing", empty.run(), 0);
        Check.due("is undoable", empty.undo(), 0);
        empty.type('x');
        Check.due("run() with a fault", empty.run(), -1000);
        Check.dueThrow("is not undoable", ISE, empty::undo);
    }

    private static void runFaults() {
        dueRun(";", -1000);
        dueRun("  ;", -1002);
        dueRun("Plus abc;", -1000);
        dueRun("xlus abc;", -1000);
        dueRun("xirror;", -1000);
        dueRun("pluss abc;", -1000);
        dueRun("plux abc;", -1000);
        dueRun("derive;plux abc;", -1007);
        dueRun("derive; deriv", -1008);
        dueRun("deriv", -1000);
        dueRun("derives", -1000);
        dueRun("derive", -1006);
        dueRun("derive ", -1007);
        dueRun("derive5;", -1006);
        dueRun("derive a;", -1007);
        dueRun("derive;;", -1007);
        dueRun("plus", -1004);
        dueRun("plus ", -1005);
        dueRun("plus  a", -1007);
        dueRun("plus;", -1004);
        dueRun("plus ;", -1005);
        dueRun("plusabc;", -1000);
        dueRun("plus_abc;", -1004);
        dueRun("plus ab;", -1007);
        dueRun("plus a bc;", -1006);
        dueRun("plus abi;", -1007);
        dueRun("plus abh;", 0);
        dueRun("plus aBc;", -1006);
        dueRun("plus abcd;", -1008);
        dueRun("plus abc", -1008);
        dueRun("plus abc ", -1009);
        dueRun("plus abc x;", -1009);
        dueRun("mirror;5", -1007);
        dueRun("mirror;{", -1007);
        dueRun("mirror;`", -1007);
        dueRun("mirror\t;", -1006);
        TripleSigns x = new TripleSigns();
        Check.due("run()", runOf(x, "plus abc;mirro;"), -1009);
        Check.due("nothing is done", x.count(2), 0);
        Check.dueThrow("nothing is saved", ISE, x::undo);
    }

    private static void runAfterLonger() {
        TripleSigns x = new TripleSigns();
        Check.due("a longer one", runOf(x, "mirror;mirror;derive;mirror;plus abc;"), 5);
        Check.due("a shorter one", runOf(x, "mirror;"), 1);
        Check.due("012", x.triple(0, 3), -1);
        String[] words = {"derive;", "plus abc;"};
        for (String word : words) {
            for (int length = 1; length < word.length(); length++) {
                Check.due("a longer one", runOf(x, word), 1);
                boolean whole = word.startsWith("plus") ? length >= 4 : length >= 6;
                Check.due("what it begins with", runOf(x, word.substring(0, length)),
                        whole ? -1000 - length : -1000);
            }
        }
        Check.due("nothing", runOf(x, ""), 0);
    }

    private static void runFull() {
        for (String end : new String[] {"", "derive", "plus", "plus ", "plus a", "plus ab", "plus abc",
            "derive ", "plus abc ", "derive;", "plus abc;", "zzz", "z", ";"}) {
            TripleSigns x = new TripleSigns();
            StringBuilder text = new StringBuilder();
            while (text.length() + end.length() < 120) {
                text.append(' ');
            }
            boolean none = end.startsWith("z") || end.equals(";");
            long want = end.isEmpty() ? 0 : none ? -1000 - text.length() : end.endsWith(";") ? 1 : -1120;
            Check.due("a full script that ends with '" + end + "'", runOf(x, text + end), want);
        }
        StringBuilder letters = new StringBuilder();
        for (int c = 0; c < 120; c++) {
            letters.append('d');
        }
        dueRun(letters.toString(), -1000);
    }

    private static void runStops() {
        TripleSigns x = new TripleSigns();
        Check.due("a point that is not there", runOf(x, "plus abc;plus abf;plus abd;"), 1);
        Check.due("the one before it stays", x.triple(0, 3), 1);
        Check.due("none after it is done", x.triple(1, 3), NONE);
        Check.due("two equal points", runOf(x, "minus aab;derive;"), 0);
        Check.due("two equal points", runOf(x, "minus aba;derive;"), 0);
        Check.due("two equal points", runOf(x, "minus baa;derive;"), 0);
        Check.due("drop of an unknown one", runOf(x, "mirror;drop cde;derive;"), 1);
        Check.due("drop of equal points", runOf(x, "mirror;drop cce;derive;"), 1);
        Check.due("drop of no point", runOf(x, "mirror;drop hab;derive;"), 1);
        Check.due("undo()", x.undo(), 3);
        TripleSigns derived = derivedPentagon();
        Check.due("drop of a derived one", runOf(derived, "drop bce;"), 0);
        Check.due("it stays", derived.triple(7, 4), 2);
        TripleSigns eight = points(8);
        Check.due("eight points", runOf(eight, "plus fgh;"), 1);
        Check.due("567", eight.triple(55, 3), 1);
    }

    // ---- promise 29

    private static void written() {
        TripleSigns x = new TripleSigns();
        x.give(0, 2, 1, 1);
        x.give(2, 3, 4, 0);
        x.give(0, 1, 4, 1);
        dueText("three given ones", x, "minus abc;plus abe;zero cde;");
        Check.due("written(28)", x.written(28), NONE);
        Check.due("written(MAX)", x.written(MAX), NONE);
        for (int wrong : new int[] {-1, NONE, MIN}) {
            Check.dueThrow("written(" + wrong + ")", IAE, () -> x.written(wrong));
        }
        TripleSigns derived = derivedPentagon();
        dueText("derived ones are not written", derived, "plus abc;plus abd;plus abe;plus acd;"
                + "plus ace;plus ade;plus bcd;plus bde;");
        TripleSigns eight = points(8);
        eight.give(5, 6, 7, -1);
        dueText("the last names", eight, "minus fgh;");
        Check.due("the text is a script", runOf(eight, textOf(eight)), 1);
    }

    // ---- promise 30

    private static void undo() {
        TripleSigns x = new TripleSigns();
        Check.dueThrow("undo()", ISE, x::undo);
        x.give(0, 1, 2, 1);
        Check.due("undo()", x.undo(), 0);
        Check.dueThrow("undo()", ISE, x::undo);
        for (int p = 0; p < 5; p++) {
            x.place(p, p, p);
        }
        x.place(0, 9, 9);
        for (int left = 3; left >= 0; left--) {
            Check.due("undo()", x.undo(), left);
        }
        Check.dueThrow("the older ones are gone", ISE, x::undo);
        Check.due("the oldest state that was kept", x.coordinate(1, 0), 1);
        Check.due("the oldest state that was kept", x.coordinate(2, 0), NONE);
        x.give(0, 1, 2, 1);
        x.type('x');
        x.undo();
        Check.due("the script is not undone", x.clearScript(), 1);
        Check.due("the sign is", x.sign(0, 1, 2), NONE);
        TripleSigns mixed = new TripleSigns();
        mixed.mirror();
        mixed.mirror();
        mixed.undo();
        mixed.forget();
        Check.due("two states", states(mixed), 2);
    }

    private static void undoOfEach() {
        for (int c = 0; c <= 12; c++) {
            TripleSigns x = contradictionFreeChain();
            for (int u = 0; u < 4; u++) {
                x.undo();
            }
            x.place(1, 3, 4);
            x.give(0, 2, 3, 1);
            Check.due("something is derived", x.derive(), 1);
            long before = x.digest();
            long told = mutate(x, c);
            Check.due("call " + c + " is undoable", x.undo(), 3);
            Check.due("undo() of call " + c + " (" + told + ")", x.digest(), before);
        }
    }

    private static long mutate(TripleSigns x, int call) {
        switch (call) {
            case 0:
                return x.begin(8);
            case 1:
                return x.give(0, 1, 2, -1);
            case 2:
                return x.drop(0, 1, 2);
            case 3:
                return x.setUniform(true) ? 1 : 0;
            case 4:
                return x.derive();
            case 5:
                return x.forget();
            case 6:
                return x.mirror();
            case 7:
                return x.turn(1);
            case 8:
                return x.exchange(1, 2);
            case 9:
                return x.place(1, 1, 1) ? 1 : 0;
            case 10:
                return x.read();
            case 11:
                return x.scatter(1, 2, 3);
            default:
                return x.run();
        }
    }

    // ---- promise 31

    private static void digest() {
        TripleSigns x = points(3);
        long h = 18398;
        // One state, no script; the counts; 012 without a sign; no relation; three points.
        int[] values = {1, 0, 3, 1, 0, 0, 1, 0, 0, 0, NONE, 0, NONE, 0, NONE, NONE, 0,
            0, NONE, NONE, 0, NONE, NONE, 0, NONE, NONE, 0};
        for (int v : values) {
            h = 31 * h + v;
        }
        Check.due("digest() of three points", x.digest(), h);
        x.give(0, 1, 2, -1);
        x.place(1, 7, -8);
        x.type('x');
        x.type('y');
        h = 18398;
        int[] others = {3, 2, 3, 1, 1, 0, 0, 0, 0, 0, NONE, 0, -1, 1, NONE, NONE, 1,
            1, NONE, NONE, 1, 7, -8, 1, NONE, NONE, 0};
        for (int v : others) {
            h = 31 * h + v;
        }
        Check.due("digest() of three points with a sign", x.digest(), h);
        Check.due("digest() changes nothing", x.digest(), h);

        TripleSigns five = derivedPentagon();
        five.place(1, 0, 0);
        five.place(2, 0, 4);
        five.place(4, 5, 5);
        h = 31 * (31 * 18398L + 4);
        for (int what = 0; what <= 9; what++) {
            h = 31 * h + five.count(what);
        }
        for (int t = 0; t < 10; t++) {
            for (int what = 3; what <= 6; what++) {
                h = 31 * h + five.triple(t, what);
            }
            h = 31 * h + five.reasons(t);
        }
        for (int r = 0; r < 5; r++) {
            h = 31 * (31 * h + five.relation(r, 5)) + five.relation(r, 6);
        }
        for (int p = 0; p < 5; p++) {
            h = 31 * h + (five.isExtreme(p) ? 1 : 0);
            h = 31 * (31 * h + five.coordinate(p, 0)) + five.coordinate(p, 1);
        }
        Check.due("digest() of five points", five.digest(), 31 * h + 1);
    }

    // ---- all of it at its largest

    private static TripleSigns fullEight() {
        TripleSigns x = points(8);
        for (int p = 0; p < 8; p++) {
            x.place(p, 2 * p - 7, (2 * p - 7) * (2 * p - 7));
        }
        x.read();
        return x;
    }

    private static void eightPoints() {
        TripleSigns x = fullEight();
        Check.due("given", x.count(2), 56);
        Check.due("complete relations", x.count(6), 280);
        Check.due("violated relations", x.count(7), 0);
        Check.due("derive()", x.derive(), 0);
        Check.due("completions()", x.completions(), 1);
        Check.due("mismatches()", x.mismatches(), 0);
        Check.due("turn(7)", x.turn(7), 21);
        Check.due("mismatches()", x.mismatches(), 21);
        Check.due("turn(7)", x.turn(7), 21);
        Check.due("mirror()", x.mirror(), 56);
        Check.due("mismatches()", x.mismatches(), 56);
        Check.due("mirror()", x.mirror(), 56);
        Check.due("exchange(0, 7)", x.exchange(0, 7), 56);
        Check.due("mismatches()", x.mismatches(), 0);
        for (int p = 0; p < 8; p++) {
            Check.due("isExtreme(" + p + ")", x.isExtreme(p), true);
        }
        // The points 1 to 6 lie right of the line from 7 to 0 (exchanged, on the parabola).
        Check.due("cocircuit(7, 0)", x.cocircuit(7, 0), 2 * (4 + 16 + 64 + 256 + 1024 + 4096));
        Check.due("written", x.written(56 * 9 - 1) != NONE, true);
        Check.due("forget()", x.forget(), 0);
        x.drop(5, 6, 7);
        Check.due("567 follows from the others", x.completions(), 1);
        Check.due("derive()", x.derive(), 1);
        Check.due("567", x.triple(55, 4), 2);
        Check.due("its bit is not in its reasons", x.reasons(55) >>> 55, 0);
        Check.due("completions()", x.completions(), 1);
        x.scatter(999999, 50, 50);

        // No three points of this placement lie on a line, so that no triple fits.
        TripleSigns flat = points(8);
        for (int t = 0; t < 56; t++) {
            flat.give(flat.triple(t, 0), flat.triple(t, 1), flat.triple(t, 2), 0);
        }
        Check.due("one line", flat.lines(), 1);
        Check.due("no side", flat.isExtreme(7), false);
        Check.due("scatter(3, 1, 50)", flat.scatter(3, 1, 50), 56);
        long s = (1103515245L * 3 + 12345L) % 2147483648L;
        Check.due("x of 0", flat.coordinate(0, 0), s / 65536 % 101 - 50);
        Check.due("mismatches()", flat.mismatches(), 56);
    }

    /** What eight points leave behind is not seen with fewer. */
    private static void fewerAgain() {
        TripleSigns x = fullEight();
        x.begin(5);
        TripleSigns fresh = points(5);
        for (int r = 0; r < 5; r++) {
            for (int what = 0; what <= 6; what++) {
                Check.due("relation", x.relation(r, what), fresh.relation(r, what));
            }
        }
        Check.due("completions()", x.completions(), 384);
        Check.due("mirror()", x.mirror(), 0);
        runOf(x, "plus abc;plus abd;plus abe;");
        Check.due("cocircuit(0, 1)", x.cocircuit(0, 1), 16 + 64 + 256);
        Check.due("isExtreme(0)", x.isExtreme(0), true);
        Check.due("turn(0)", x.turn(0), 3);
        Check.due("exchange(0, 1)", x.exchange(0, 1), 3);
        Check.due("read()", x.read(), 0);
        x.undo();
        x.undo();
        x.undo();
        x.undo();
        Check.due("five points", x.count(0), 5);
        Check.due("the triples", x.count(1), 10);
    }

    // ---- exceptions

    private static void throwsChangeNothing() {
        TripleSigns x = derivedPentagon();
        x.place(0, 1, 1);
        write(x, "drop bce;");
        long before = x.digest();
        Check.dueThrow("begin(9)", IAE, () -> x.begin(9));
        Check.dueThrow("give(0, 1, 2, 3)", IAE, () -> x.give(0, 1, 2, 3));
        Check.dueThrow("drop(1, 2, 4)", ISE, () -> x.drop(1, 2, 4));
        Check.dueThrow("turn(5)", IOOBE, () -> x.turn(5));
        Check.dueThrow("exchange(1, 1)", IAE, () -> x.exchange(1, 1));
        Check.dueThrow("place(0, 51, 0)", IAE, () -> x.place(0, 51, 0) ? 1 : 0);
        Check.dueThrow("scatter(0, 0, 1)", IAE, () -> x.scatter(0, 0, 1));
        Check.dueThrow("type(128)", IAE, () -> x.type(128));
        Check.due("nothing has changed", x.digest(), before);
    }
}
