import java.math.BigInteger;

/** Edges of promises 29 to 31: the text of the given signs, undo, and the checksum. */
final class UndoEdges {
    private static final String SAVES = "Every method that is marked \"undoable\" saves the whole state but the "
            + "script on an undo stack when it ends normally, also if it changes nothing.";
    private static final String LATEST = "The stack keeps the latest 4 saved states and drops older ones.";

    private UndoEdges() {
    }

    static void all() {
        written();
        writtenRefuses();
        undo();
        undoSaves();
        undoKeepsFour();
        undoRefuses();
        digest();
        digestWraps();
    }

    // ---- promise 29

    private static void dueText(String told, TripleSigns x, String due) {
        String got = Making.text(x);
        Check.due(told + ": the text '" + got + "' is '" + due + "'", got.equals(due), true);
        Check.due(told + ": behind its end", x.written(due.length()), Edges.NONE);
        Check.due(told + ": far behind its end", x.written(Edges.MAX), Edges.NONE);
    }

    private static void written() {
        String sentence = "Returns a byte of the text of the given signs: for each given triple in ascending order "
                + "the word plus, minus or zero, a space, the names of its points in ascending order, and a "
                + "semicolon.";
        Edges.edge(29, sentence, "no given triple", () -> {
            dueText("a new object", new TripleSigns(), "");
            TripleSigns x = Making.signs("plus abc;");
            x.drop(0, 1, 2);
            dueText("a dropped one", x, "");
        });
        Edges.edge(29, sentence, "each word", () -> {
            dueText("1", Making.signs("plus abc;"), "plus abc;");
            dueText("-1", Making.signs("minus abc;"), "minus abc;");
            dueText("0", Making.signs("zero abc;"), "zero abc;");
        });
        Edges.edge(29, sentence, "ascending, in whatever order they were given", () -> {
            dueText("names", Making.signs("plus cba;"), "minus abc;");
            dueText("triples", Making.signs("zero cde;plus bca;minus edb;"), "plus abc;plus bde;zero cde;");
        });
        Edges.edge(29, sentence, "derived triples are not given", () ->
                dueText("chain", Making.chain(), "plus abc;zero abd;plus acd;plus ace;plus ade;plus bcd;plus bce;"));
        Edges.edge(29, sentence, "the last names", () -> dueText("fgh", Making.signs(8, "minus fgh;"), "minus fgh;"));
        Edges.edge(29, sentence, "all triples of eight points", () -> {
            TripleSigns x = Making.parabola(8);
            x.mirror();
            StringBuilder text = new StringBuilder();
            for (int i = 0; i < 8; i++) {
                for (int j = i + 1; j < 8; j++) {
                    for (int k = j + 1; k < 8; k++) {
                        text.append("minus ").append((char) ('a' + i)).append((char) ('a' + j))
                                .append((char) ('a' + k)).append(';');
                    }
                }
            }
            Check.due("the length", text.length(), 560);
            for (int index = 0; index < 560; index += 2) {
                Check.due("written(" + index + ")", x.written(index), text.charAt(index));
            }
            x = Making.parabola(8);
            x.mirror();
            for (int index = 1; index < 560; index += 2) {
                Check.due("written(" + index + ")", x.written(index), text.charAt(index));
            }
            Check.due("written(560)", x.written(560), Edges.NONE);
        });
        Edges.edge(29, "Returns the byte; NONE if the text has not so many.", "the last one and the next one", () -> {
            TripleSigns x = Making.signs("plus abc;");
            Check.due("written(8)", x.written(8), ';');
            Check.due("written(9)", x.written(9), Edges.NONE);
            Check.due("written(10)", x.written(10), Edges.NONE);
            Check.due("written(0) of nothing", new TripleSigns().written(0), Edges.NONE);
            Check.due("nothing changes", Making.text(x).length(), 9);
        });
        Edges.edge(29, "Returns the byte; NONE if the text has not so many.", "nothing changes by it", () ->
                Edges.changesNothing("written(0)", x -> x.written(0)));
    }

    private static void writtenRefuses() {
        Edges.edge(29, "`index`: 0 or more", "0 and the greatest", () -> {
            TripleSigns x = Making.signs("zero abc;");
            Check.due("written(0)", x.written(0), 'z');
            Check.due("written(MAX)", x.written(Edges.MAX), Edges.NONE);
        });
        Edges.edge(29, "Throws `IllegalArgumentException` if index is negative", "with a text and without", () -> {
            for (int wrong : new int[] {-1, -2, Edges.NONE, Edges.MIN}) {
                Edges.refused(Edges.IAE, "written(" + wrong + ")", x -> x.written(wrong));
                Edges.refused(TripleSigns::new, Edges.IAE, "written(" + wrong + ")", x -> x.written(wrong));
            }
        });
    }

    // ---- promise 30

    /** A call of each undoable method that changes nothing on a new object. */
    private static final Edges.Call[] IDLE = {
        x -> x.begin(5), x -> x.setUniform(false) ? 1 : 0, x -> x.turn(2), x -> x.exchange(0, 2),
        TripleSigns::derive, TripleSigns::forget, TripleSigns::mirror, TripleSigns::read, TripleSigns::run,
    };

    /** A call of each of the others, and one that gives a sign once more. */
    private static final Edges.Call[] CHANGING = {
        x -> x.give(0, 1, 2, -1), x -> x.drop(0, 1, 2), x -> x.place(0, 1, 1) ? 1 : 0, x -> x.scatter(1, 1, 1),
        x -> x.give(1, 0, 2, -1),
    };

    /** A call of each method that is not undoable and changes nothing. */
    private static final Edges.Call[] ASKING = {
        x -> x.sign(0, 1, 2), x -> x.triple(0, 3), x -> x.reasons(0), x -> x.count(7), x -> x.relation(0, 6),
        x -> x.behind(0), TripleSigns::completions, x -> x.cocircuit(0, 1), x -> x.isExtreme(0) ? 1 : 0,
        TripleSigns::lines, x -> x.coordinate(0, 0), TripleSigns::mismatches, x -> x.written(0), TripleSigns::digest,
    };

    private static void undo() {
        Edges.edge(30, "Restores the latest saved state and removes it from the undo stack.",
                "one after the other", () -> {
            TripleSigns x = new TripleSigns();
            x.place(0, 1, 1);
            x.place(0, 2, 2);
            x.place(0, 3, 3);
            for (int left = 2; left >= 0; left--) {
                Check.due("undo()", x.undo(), left);
                Check.due("x of 0", x.coordinate(0, 0), left == 0 ? Edges.NONE : left);
            }
        });
        Edges.edge(30, "Restores the latest saved state and removes it from the undo stack.",
                "undo() saves none", () -> {
            TripleSigns x = new TripleSigns();
            x.mirror();
            x.mirror();
            Check.due("undo()", x.undo(), 1);
            x.mirror();
            Check.due("undo()", x.undo(), 1);
            Check.due("undo()", x.undo(), 0);
        });
        Edges.edge(30, SAVES, "the whole state: each undoable method on objects that hold much", () -> {
            for (int method = 0; method < IDLE.length; method++) {
                Edges.undoable("idle method " + method, IDLE[method]);
            }
            for (int method = 0; method < CHANGING.length; method++) {
                Edges.undoable("changing method " + method, CHANGING[method]);
            }
        });
        Edges.edge(30, SAVES, "but the script", () -> {
            TripleSigns x = new TripleSigns();
            Making.write(x, "mirror;");
            x.mirror();
            Making.write(x, "plus abc;");
            x.undo();
            Check.due("run()", x.run(), 1);
            Check.due("012", x.sign(0, 1, 2), 1);
            Check.due("clearScript()", x.clearScript(), 9);
            x.undo();
            Check.due("it stays empty", x.clearScript(), 0);
        });
        Edges.edge(30, SAVES, "also if it changes nothing", () -> {
            for (int method = 0; method < IDLE.length; method++) {
                TripleSigns x = new TripleSigns();
                IDLE[method].on(x);
                Check.due("undo() of method " + method, x.undo(), 0);
                Check.due("digest()", x.digest(), new TripleSigns().digest());
            }
            TripleSigns given = Making.signs("plus abc;");
            given.give(0, 1, 2, 1);
            Check.due("undo() of give()", given.undo(), 2);
            TripleSigns placed = new TripleSigns();
            placed.place(0, 5, -7);
            placed.place(0, 5, -7);
            Check.due("undo() of place()", placed.undo(), 1);
            TripleSigns scattered = new TripleSigns();
            scattered.scatter(1, 1, 1);
            scattered.scatter(1, 1, 1);
            Check.due("undo() of scatter()", scattered.undo(), 1);
        });
    }

    private static void undoSaves() {
        Edges.edge(30, "The saved state is the one from before the call.", "a call that changes much", () -> {
            TripleSigns x = Making.busyPlaced(8);
            x.begin(3);
            Check.due("undo()", x.undo(), 3);
            Edges.same("begin(3) undone", x, Making.busyPlaced(8));
        });
        Edges.edge(30, "Every method that is marked \"undoable\" saves", "the others save none", () -> {
            TripleSigns x = Making.emptied(Making.parabola(8));
            long before = x.digest();
            for (int method = 0; method < ASKING.length; method++) {
                ASKING[method].on(x);
                Check.dueThrow("undo() after method " + method, Edges.ISE, x::undo);
                Check.due("digest() after method " + method, x.digest(), before);
            }
            x.type('!');
            Check.dueThrow("undo() after type()", Edges.ISE, x::undo);
            x.run();
            Check.dueThrow("undo() after run() with a fault", Edges.ISE, x::undo);
            x.clearScript();
            Check.dueThrow("undo() after clearScript()", Edges.ISE, x::undo);
            Check.due("digest()", x.digest(), before);
        });
        Edges.edge(30, "saves the whole state but the script on an undo stack when it ends normally",
                "refused calls save none", () -> {
            TripleSigns x = new TripleSigns();
            Check.dueThrow("begin(2)", Edges.IAE, () -> x.begin(2));
            Check.dueThrow("give()", Edges.IAE, () -> x.give(0, 1, 2, 2));
            Check.dueThrow("drop()", Edges.ISE, () -> x.drop(0, 1, 2));
            Check.dueThrow("turn()", Edges.IOOBE, () -> x.turn(5));
            Check.dueThrow("exchange()", Edges.IAE, () -> x.exchange(0, 0));
            Check.dueThrow("place()", Edges.IAE, () -> x.place(0, 0, 51) ? 1 : 0);
            Check.dueThrow("scatter()", Edges.IAE, () -> x.scatter(0, 0, 1));
            Check.dueThrow("undo()", Edges.ISE, x::undo);
        });
    }

    private static void undoKeepsFour() {
        Edges.edge(30, LATEST, "four can be undone", () -> {
            TripleSigns x = new TripleSigns();
            for (int p = 0; p < 4; p++) {
                x.place(p, p, p);
            }
            for (int left = 3; left >= 0; left--) {
                Check.due("undo()", x.undo(), left);
            }
            for (int p = 0; p < 5; p++) {
                Check.due("x of " + p, x.coordinate(p, 0), Edges.NONE);
            }
            Check.dueThrow("undo()", Edges.ISE, x::undo);
        });
        Edges.edge(30, LATEST, "the fifth drops the first", () -> {
            TripleSigns x = new TripleSigns();
            for (int p = 0; p < 5; p++) {
                x.place(p, p, p);
            }
            for (int left = 3; left >= 0; left--) {
                Check.due("undo()", x.undo(), left);
                Check.due("x of the last one", x.coordinate(left + 1, 0), Edges.NONE);
                Check.due("x of the one before", x.coordinate(left, 0), left);
            }
            Check.dueThrow("undo()", Edges.ISE, x::undo);
            Check.due("x of 0", x.coordinate(0, 0), 0);
        });
        Edges.edge(30, LATEST, "many calls, and calls between the undos", () -> {
            TripleSigns x = new TripleSigns();
            for (int call = 0; call < 100; call++) {
                x.place(0, call % 101 - 50, 0);
            }
            Check.due("undo()", x.undo(), 3);
            Check.due("x of 0", x.coordinate(0, 0), 48);
            x.place(0, 7, 7);
            Check.due("undo()", x.undo(), 3);
            Check.due("x of 0", x.coordinate(0, 0), 48);
            for (int left = 2; left >= 0; left--) {
                Check.due("undo()", x.undo(), left);
                Check.due("x of 0", x.coordinate(0, 0), 45 + left);
            }
            Check.dueThrow("undo()", Edges.ISE, x::undo);
        });
        Edges.edge(30, "Returns the number of states that are left on the stack.", "three to none", () -> {
            TripleSigns x = Making.busy(5);
            for (int left = 3; left >= 0; left--) {
                Check.due("undo()", x.undo(), left);
            }
        });
    }

    private static void undoRefuses() {
        Edges.edge(30, "Throws `IllegalStateException` if the stack is empty", "a new object", () -> {
            TripleSigns x = new TripleSigns();
            Check.dueThrow("undo()", Edges.ISE, x::undo);
            Check.dueThrow("undo() again", Edges.ISE, x::undo);
            Check.due("digest()", x.digest(), new TripleSigns().digest());
        });
        Edges.edge(30, "Throws `IllegalStateException` if the stack is empty", "all states are undone", () -> {
            for (int n : new int[] {3, 5, 8}) {
                Edges.refused(() -> Making.emptied(Making.busy(n)), Edges.ISE, "undo() of " + n + " points",
                        TripleSigns::undo);
                Edges.refused(() -> Making.emptied(Making.ready(n)), Edges.ISE, "undo() of " + n + ", not derived",
                        TripleSigns::undo);
            }
        });
        Edges.edge(30, "A call that throws an exception changes nothing.",
                "undo() of nothing, and a call after it", () -> {
            TripleSigns x = Making.emptied(Making.busy(5));
            Check.dueThrow("undo()", Edges.ISE, x::undo);
            x.mirror();
            Check.due("undo()", x.undo(), 0);
            Edges.same("after it", x, Making.emptied(Making.busy(5)));
        });
    }

    // ---- promise 31

    /** The hash of the document, of answers of objects that are made anew, since they are many. */
    private static long hash(Edges.Maker maker, int states, int script) {
        long h = 31 * (31 * 18398L + states) + script;
        TripleSigns x = maker.make();
        for (int what = 0; what <= 9; what++) {
            h = 31 * h + x.count(what);
        }
        int triples = x.count(1);
        int relations = x.count(5);
        int points = x.count(0);
        for (int t = 0; t < triples; t++) {
            for (int what = 3; what <= 6; what++) {
                h = 31 * h + x.triple(t, what);
            }
            h = 31 * h + x.reasons(t);
        }
        for (int r = 0; r < relations; r++) {
            x = r % 100 == 0 ? maker.make() : x;
            h = 31 * h + x.relation(r, 5);
            h = 31 * h + x.relation(r, 6);
        }
        x = maker.make();
        for (int p = 0; p < points; p++) {
            h = 31 * h + (x.isExtreme(p) ? 1 : 0);
            h = 31 * h + x.coordinate(p, 0);
            h = 31 * h + x.coordinate(p, 1);
        }
        return 31 * h + x.mismatches();
    }

    private static void digest() {
        String sentence = "the number of states on the undo stack, the length of the script; count() of 0 to 9; for "
                + "each triple triple() of 3 to 6 and reasons(); for each relation relation() of 5 and 6; for each "
                + "point isExtreme() as 1 or 0, and coordinate() of 0 and 1; mismatches().";
        Edges.edge(31, sentence, "a new object", () ->
                Check.due("digest()", new TripleSigns().digest(), hash(TripleSigns::new, 0, 0)));
        Edges.edge(31, sentence, "three points, which have no relation", () -> {
            Check.due("empty", Making.points(3).digest(), hash(() -> Making.points(3), 1, 0));
            Check.due("busy", Making.busy(3).digest(), hash(() -> Making.busy(3), 4, 34));
        });
        Edges.edge(31, sentence, "four to seven points", () -> {
            for (int n = 4; n <= 7; n++) {
                int points = n;
                Check.due("busy", Making.busy(n).digest(), hash(() -> Making.busy(points), 4, 34));
            }
        });
        Edges.edge(31, sentence, "eight points", () -> {
            Check.due("busy", Making.busy(8).digest(), hash(() -> Making.busy(8), 4, 34));
            Check.due("not derived", Making.ready(8).digest(), hash(() -> Making.ready(8), 3, 34));
            Check.due("full", Making.parabola(8).digest(), hash(() -> Making.parabola(8), 4, 0));
            Check.due("flat", Making.flat(8).digest(), hash(() -> Making.flat(8), 4, 0));
        });
        Edges.edge(31, sentence, "each number of states and a full script", () -> {
            for (int states = 0; states <= 4; states++) {
                int calls = states;
                Edges.Maker maker = () -> {
                    TripleSigns x = new TripleSigns();
                    for (int call = 0; call < calls; call++) {
                        x.mirror();
                    }
                    Making.write(x, " ".repeat(120));
                    return x;
                };
                Check.due("digest()", maker.make().digest(), hash(maker, states, 120));
            }
        });
        Edges.edge(31, sentence, "mismatches", () -> {
            Edges.Maker maker = () -> {
                TripleSigns x = Making.parabola(5);
                x.mirror();
                return x;
            };
            Check.due("mismatches()", maker.make().mismatches(), 10);
            Check.due("digest()", maker.make().digest(), hash(maker, 4, 0));
        });
    }

    private static void digestWraps() {
        Edges.edge(31, "It starts with h = 18398. For each of the following values v, in this order, h becomes 31 * "
                + "h + v (long arithmetic, overflow wraps).", "exactly, beyond 64 bits", () -> {
            TripleSigns x = Making.points(3);
            int[] values = {1, 0, 3, 1, 0, 0, 1, 0, 0, 0, -100, 0, -100, 0, -100, -100, 0,
                0, -100, -100, 0, -100, -100, 0, -100, -100, 0};
            BigInteger h = BigInteger.valueOf(18398);
            for (int v : values) {
                h = h.multiply(BigInteger.valueOf(31)).add(BigInteger.valueOf(v));
            }
            Check.due("it is longer than a long", h.bitLength() > 64, true);
            Check.due("digest()", x.digest(), h.longValue());
        });
        Edges.edge(31, "Returns a hash of the state.", "nothing changes by it", () -> {
            for (int n : new int[] {3, 5, 8}) {
                Edges.changesNothing(() -> Making.busy(n), "digest()", TripleSigns::digest);
                Edges.changesNothing(() -> Making.ready(n), "digest(), not derived", TripleSigns::digest);
            }
        });
        Edges.edge(31, "Returns the hash.", "the same twice, and of two objects", () -> {
            TripleSigns x = Making.busy(8);
            Check.due("again", x.digest(), x.digest());
            Check.due("another object", x.digest(), Making.busy(8).digest());
        });
    }
}
