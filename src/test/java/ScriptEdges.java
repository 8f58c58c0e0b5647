/** Edges of promises 26 to 28: the bytes of a script, its faults, and running it. */
final class ScriptEdges {
    private static final String SEQUENCE = "It is a sequence of commands (perhaps none), each of which is a word of "
            + "letters, in some cases followed by at least one space (byte 32) and three names of points (letters, "
            + "directly one behind the other), and then a semicolon.";
    private static final String SPACES =
            "Spaces may also stand in front of a command, in front of a semicolon, and at the end.";
    private static final String WORDS = "The words are: plus, minus, zero (give(i, j, k, 1), -1 and 0 for the three "
            + "points as they stand), drop (drop(i, j, k)), all of them with names; and derive, mirror, without "
            + "names.";
    private static final String FAULT = "The fault of a script is the index of the first byte that cannot stand at "
            + "its place, or the length of the script if it ends too soon.";
    private static final String WORD = "A word that is not one of these is at fault with its first byte, found when "
            + "the word is complete: when a byte that is no letter a to z, or the end of the script, follows it.";
    private static final String NAME = "A name is a letter a to h, also of a point that does not exist.";
    private static final String RUN = "To run a script means: if it has a fault, nothing is done; otherwise the "
            + "commands are carried out in their order, until one of them would throw an exception, which is not "
            + "thrown; those before it stay done, and they alone count.";

    private ScriptEdges() {
    }

    static void all() {
        type();
        keeps();
        typeRefuses();
        clearScript();
        sequence();
        spaces();
        words();
        faults();
        wordFaults();
        names();
        everyByte();
        running();
        stops();
        answers();
        undoable();
    }

    private static TripleSigns full(int n) {
        TripleSigns x = Making.busy(n);
        StringBuilder text = new StringBuilder("plus cba; drop bcd ;derive;mirror;");
        while (text.length() < 120) {
            text.append(' ');
        }
        Making.write(x, text.toString());
        return x;
    }

    /** The answer of run() of new objects with five points. */
    private static void due(String text, int due) {
        TripleSigns x = new TripleSigns();
        Check.due("run() of '" + text + "'", Making.run(x, text), due);
        if (due < 0) {
            Check.due("'" + text + "' does nothing", x.count(2), 0);
        }
        Check.due("the script stays", x.clearScript(), text.length());
    }

    // ---- promises 26 and 27

    private static void type() {
        Edges.edge(26, "The script has at most 120 bytes.", "it takes 120", () -> {
            TripleSigns x = new TripleSigns();
            for (int length = 1; length <= 120; length++) {
                Check.due("type(32)", x.type(32), length);
            }
            Check.dueThrow("type(32)", Edges.ISE, () -> x.type(32));
            Check.due("run() of all", x.run(), 0);
            Check.due("clearScript()", x.clearScript(), 120);
        });
        Edges.edge(26, "`value`: 0 to 127", "both ends", () -> {
            TripleSigns x = new TripleSigns();
            Check.due("type(0)", x.type(0), 1);
            Check.due("type(127)", x.type(127), 2);
            Check.due("every other", typeAll(), 126);
        });
        Edges.edge(26, "Appends a byte to the script.", "at its end", () -> {
            TripleSigns x = new TripleSigns();
            Making.write(x, "plus ab");
            Check.due("it ends too soon", x.run(), -1007);
            x.type('c');
            Check.due("it ends too soon", x.run(), -1008);
            x.type(';');
            Check.due("run()", x.run(), 1);
            x.type('!');
            Check.due("run()", x.run(), -1009);
        });
        Edges.edge(26, "Returns the length of the script.", "after clearScript(), and with fewer points", () -> {
            TripleSigns x = new TripleSigns();
            x.type('a');
            x.begin(3);
            Check.due("the second one", x.type('b'), 2);
            x.clearScript();
            Check.due("the first one again", x.type('c'), 1);
        });
    }

    private static void keeps() {
        Edges.edge(26, "Appends a byte to the script.", "nothing else changes, and no state is saved", () -> {
            for (int n : new int[] {3, 5, 8}) {
                TripleSigns x = Making.busy(n);
                Making.write(x, Making.SCRIPT);
                Edges.same("busy, of " + n + " points", x, Making.busy(n));
                TripleSigns ready = Making.ready(n);
                Making.write(ready, Making.SCRIPT);
                Edges.same("not derived, of " + n + " points", ready, Making.ready(n));
            }
        });
        Edges.edge(27, "Empties the script.", "nothing else changes, and no state is saved", () -> {
            TripleSigns x = Making.ready(8);
            TripleSigns twin = Making.ready(8);
            Check.due("clearScript()", x.clearScript(), Making.SCRIPT.length());
            for (int what = 0; what <= 9; what++) {
                Check.due("count(" + what + ")", x.count(what), twin.count(what));
            }
            Check.due("undo()", x.undo(), twin.undo());
        });
    }

    private static int typeAll() {
        int typed = 0;
        for (int value = 1; value <= 126; value++) {
            typed += new TripleSigns().type(value);
        }
        return typed;
    }

    private static void typeRefuses() {
        int[] wrong = {-1, 128, 255, 256, Edges.NONE, Edges.MAX, Edges.MIN};
        Edges.edge(26, "Throws `IllegalArgumentException` if value is out of range", "just outside and far", () ->
                Edges.refusedEach(wrong, Edges.IAE, "type", TripleSigns::type));
        Edges.edge(26, "Throws `IllegalStateException` if the script has 120 bytes", "any byte", () -> {
            for (int value : new int[] {0, 32, 127}) {
                for (int n : new int[] {3, 5, 8}) {
                    Edges.refused(() -> full(n), Edges.ISE, "type(" + value + ")", x -> x.type(value));
                }
            }
        });
        Edges.edge(26, "If several exceptions of a method apply, the one that is listed first is thrown.",
                "no such byte comes before the full script", () -> {
            for (int value : wrong) {
                Edges.refused(() -> full(5), Edges.IAE, "type(" + value + ")", x -> x.type(value));
            }
        });
    }

    private static void clearScript() {
        Edges.edge(27, "Empties the script.", "what stood in it does not come back", () -> {
            TripleSigns x = full(5);
            x.clearScript();
            Check.due("run()", x.run(), 0);
            x.type('m');
            Check.due("run() of m", x.run(), -1000);
            Check.due("clearScript()", x.clearScript(), 1);
        });
        Edges.edge(27, "Empties the script.", "behind a shorter one nothing of a longer one is read", () -> {
            for (String text : new String[] {"plus  abc ;", "mirror ;derive;"}) {
                for (int length = 0; length < text.length(); length++) {
                    TripleSigns x = new TripleSigns();
                    Check.due("the longer one", Making.run(x, text) > 0, true);
                    String shorter = text.substring(0, length);
                    int due = Making.run(new TripleSigns(), shorter);
                    Check.due("run() of '" + shorter + "'", Making.run(x, shorter), due);
                }
            }
        });
        Edges.edge(27, "Empties the script.", "a full one has room again", () -> {
            TripleSigns x = full(5);
            Check.dueThrow("type(32)", Edges.ISE, () -> x.type(32));
            x.clearScript();
            Check.due("type(32)", x.type(32), 1);
        });
        Edges.edge(27, "Returns the length that it had.", "empty, one and full", () -> {
            TripleSigns x = new TripleSigns();
            Check.due("empty", x.clearScript(), 0);
            x.type(0);
            Check.due("one", x.clearScript(), 1);
            Check.due("empty again", x.clearScript(), 0);
            Check.due("full", full(8).clearScript(), 120);
        });
    }

    // ---- promise 28, what a script is

    private static void sequence() {
        Edges.edge(28, SEQUENCE, "no command", () -> due("", 0));
        Edges.edge(28, SEQUENCE, "one and two", () -> {
            due("mirror;", 1);
            due("plus abc;", 1);
            due("plus abc;mirror;", 2);
        });
        Edges.edge(28, SEQUENCE, "at least one space in front of the names", () -> {
            due("plus abc;", 1);
            due("plus  abc;", 1);
            due("plus         abc;", 1);
            due("plusabc;", -1000);
            due("plus\tabc;", -1004);
            due("plus\u0000abc;", -1004);
            due("plus;", -1004);
        });
        Edges.edge(28, SEQUENCE, "the names stand directly one behind the other", () -> {
            due("plus a bc;", -1006);
            due("plus ab c;", -1007);
            due("plus abc;", 1);
        });
        Edges.edge(28, SEQUENCE, "three names, not two or four", () -> {
            due("plus ;", -1005);
            due("plus a;", -1006);
            due("plus ab;", -1007);
            due("plus abcd;", -1008);
            due("plus abc d;", -1009);
        });
        Edges.edge(28, SEQUENCE, "a semicolon behind each command", () -> {
            due("mirror", -1006);
            due("mirror mirror;", -1007);
            due("mirror;mirror", -1013);
            due("plus abc", -1008);
            due("plus abc mirror;", -1009);
            due("mirror;;", -1007);
            due(";", -1000);
        });
        Edges.edge(28, SEQUENCE, "as many commands as fit in 120 bytes", () -> {
            StringBuilder text = new StringBuilder();
            for (int c = 0; c < 17; c++) {
                text.append("mirror;");
            }
            due(text.toString(), 17);
            due(text + " ", 17);
            due(text + "m", -1119);
            due(text + ";", -1119);
        });
    }

    private static void spaces() {
        Edges.edge(28, SPACES, "spaces alone", () -> {
            due(" ", 0);
            due(" ".repeat(120), 0);
        });
        Edges.edge(28, SPACES, "in front of a command", () -> {
            due(" mirror;", 1);
            due("   plus abc;   mirror;", 2);
            due(" ".repeat(113) + "mirror;", 1);
        });
        Edges.edge(28, SPACES, "in front of a semicolon", () -> {
            due("mirror ;", 1);
            due("plus abc    ;mirror    ;", 2);
            due("mirror" + " ".repeat(113) + ";", 1);
        });
        Edges.edge(28, SPACES, "at the end", () -> {
            due("mirror; ", 1);
            due("plus abc;   ", 1);
            due("mirror;" + " ".repeat(113), 1);
        });
        Edges.edge(28, SPACES, "nowhere else", () -> {
            due("mir ror;", -1000);
            due("pl us abc;", -1000);
            due("plus a bc;", -1006);
        });
    }

    private static void words() {
        Edges.edge(28, WORDS, "plus, minus and zero", () -> {
            Check.due("plus", Making.signs("plus abc;").sign(0, 1, 2), 1);
            Check.due("minus", Making.signs("minus abc;").sign(0, 1, 2), -1);
            Check.due("zero", Making.signs("zero abc;").sign(0, 1, 2), 0);
        });
        Edges.edge(28, WORDS, "for the three points as they stand", () -> {
            Check.due("plus bac", Making.signs("plus bac;").sign(0, 1, 2), -1);
            Check.due("minus cba", Making.signs("minus cba;").sign(0, 1, 2), 1);
            Check.due("minus cab", Making.signs("minus cab;").sign(0, 1, 2), -1);
            Check.due("zero acb", Making.signs("zero acb;").sign(0, 1, 2), 0);
            Check.due("plus hgf", Making.signs(8, "plus hgf;").sign(5, 6, 7), -1);
        });
        Edges.edge(28, WORDS, "drop in every order", () -> {
            for (String names : new String[] {"abc", "acb", "bac", "bca", "cab", "cba"}) {
                TripleSigns x = Making.signs("plus abc;plus abd;");
                Check.due("drop " + names, Making.run(x, "drop " + names + ";"), 1);
                Check.due("012", x.sign(0, 1, 2), Edges.NONE);
                Check.due("013", x.sign(0, 1, 3), 1);
            }
        });
        Edges.edge(28, WORDS, "derive and mirror", () -> {
            TripleSigns x = Making.signs("plus abc;plus ade;zero abd;plus ace;plus acd;");
            Check.due("run()", Making.run(x, "derive;"), 1);
            Check.due("014", x.triple(2, 4), 2);
            Check.due("run()", Making.run(x, "mirror;"), 1);
            Check.due("014", x.sign(0, 1, 4), 1);
            Check.due("012", x.sign(0, 1, 2), -1);
        });
        Edges.edge(28, WORDS, "with names and without", () -> {
            due("derive abc;", -1007);
            due("mirror abc;", -1007);
            for (String word : new String[] {"plus", "minus", "zero", "drop"}) {
                due(word + ";", -1000 - word.length());
                due(word + " ;", -1001 - word.length());
            }
        });
        Edges.edge(28, WORDS, "give() in a script changes what give() changes", () -> {
            TripleSigns x = Making.chain();
            Making.run(x, "plus abc;");
            Check.due("the sign that it has", x.count(3), 2);
            Making.run(x, "plus cde;");
            Check.due("an unknown triple", x.count(3), 2);
            Making.run(x, "zero abc;");
            Check.due("another sign", x.count(3), 0);
            TripleSigns derived = Making.chain();
            Making.run(derived, "minus abe;");
            Check.due("a derived triple", derived.triple(2, 4), 1);
            Check.due("the other one", derived.count(3), 0);
            TripleSigns against = Making.contradicted();
            Making.run(against, "drop abc;");
            Check.due("contradiction", against.count(8), Edges.NONE);
            TripleSigns found = Making.contradicted();
            found.forget();
            Making.run(found, "derive;mirror;");
            Check.due("contradiction of a run", found.count(8), 1);
        });
    }

    private static void faults() {
        Edges.edge(28, FAULT, "each beginning of a command with names", () -> {
            String text = "minus  abd ;";
            for (int length = 1; length < text.length(); length++) {
                due(text.substring(0, length), length < 5 ? -1000 : -1000 - length);
            }
            due(text, 1);
        });
        Edges.edge(28, FAULT, "each beginning of a command without names", () -> {
            String text = "derive  ;";
            for (int length = 1; length < text.length(); length++) {
                due(text.substring(0, length), length < 6 ? -1000 : -1000 - length);
            }
            due(text, 1);
        });
        Edges.edge(28, FAULT, "in a later command", () -> {
            due("mirror;plus abc;zero ab", -1023);
            due("mirror;plus abc;zero ab;", -1023);
            due("mirror; ;", -1008);
            due("plus abc;!", -1009);
        });
        Edges.edge(28, FAULT, "the first of several", () -> {
            due("!;!", -1000);
            due("plus ;plus ;", -1005);
            due("mirror;plus ai;drop", -1013);
        });
        Edges.edge(28, FAULT, "the last of 120 bytes, and their end", () -> {
            due(" ".repeat(119) + ";", -1119);
            due(" ".repeat(114) + "mirror", -1120);
            due(" ".repeat(116) + "plus", -1120);
            due(" ".repeat(115) + "plus ", -1120);
            due(" ".repeat(114) + "plus a", -1120);
            due(" ".repeat(113) + "plus ab", -1120);
            due(" ".repeat(112) + "plus abc", -1120);
            due(" ".repeat(111) + "plus abc ", -1120);
            due(" ".repeat(113) + "mirror ", -1120);
            due(" ".repeat(113) + "mirror;", 1);
            due(" ".repeat(111) + "plus abc;", 1);
            due(" ".repeat(113) + "mirror!", -1119);
        });
    }

    private static void wordFaults() {
        Edges.edge(28, WORD, "a byte that is no letter follows it", () -> {
            due("mirro;", -1000);
            due("mirro ;", -1000);
            due("pluses abc;", -1000);
            due("plu abc;", -1000);
            due("x;", -1000);
            due("mirror;x5", -1007);
            due("  zeros abc;", -1002);
        });
        Edges.edge(28, WORD, "the end of the script follows it", () -> {
            due("p", -1000);
            due("plu", -1000);
            due("mirro", -1000);
            due("mirror;deriv", -1007);
            due(" ".repeat(119) + "d", -1119);
            due("z".repeat(120), -1000);
        });
        Edges.edge(28, WORD, "one of them goes on with letters", () -> {
            due("mirrors;", -1000);
            due("derivea;", -1000);
            due("plusabc;", -1000);
            due("dropdrop abc;", -1000);
            due("mirrorderive;", -1000);
        });
        Edges.edge(28, WORD, "capital letters and other bytes beside a to z are none", () -> {
            due("Mirror;", -1000);
            due("mirroR;", -1000);
            due("mirror`;", -1006);
            due("mirror{;", -1006);
            due("mirrorA;", -1006);
            due("plus`abc;", -1004);
            due("`plus abc;", -1000);
            due("{;", -1000);
            due("\u007f", -1000);
            due("\u0000", -1000);
        });
        Edges.edge(28, WORD, "another word of as many letters", () -> {
            due("abcd abc;", -1000);
            due("minut abc;", -1000);
            due("zerp abc;", -1000);
            due("dron abc;", -1000);
            due("aerive;", -1000);
            due("mirrot;", -1000);
        });
    }

    private static void names() {
        Edges.edge(28, NAME, "a and h, and what is beside them", () -> {
            due("plus `bc;", -1005);
            due("plus ibc;", -1005);
            due("plus abi;", -1007);
            due("plus a`c;", -1006);
            due("plus Abc;", -1005);
            due("plus ab1;", -1007);
            Check.due("of eight points", Making.run(Making.points(8), "plus ahb;"), 1);
        });
        Edges.edge(28, NAME, "a point that does not exist is no fault", () -> {
            due("plus abf;", 0);
            due("plus hgf;", 0);
            due("mirror;drop abh;mirror;", 1);
            Check.due("d of three points", Making.run(Making.points(3), "plus abc;plus abd;"), 1);
        });
        Edges.edge(28, NAME, "equal names are no fault", () -> {
            due("plus aaa;", 0);
            due("mirror;drop aba;", 1);
        });
    }

    /** Every byte at each place of a script, compared with Model's reading of the grammar. */
    private static void everyByte() {
        Edges.edge(28, FAULT, "every byte at each place of a script", () -> {
            String text = " plus  abc ;mirror ; drop abd;";
            for (int place = 0; place < text.length(); place++) {
                for (char value = 0; value <= 127; value++) {
                    String changed = text.substring(0, place) + value + text.substring(place + 1);
                    int fault = Model.faultOf(changed);
                    int got = Making.run(Making.parabola(4), changed);
                    Check.due("'" + changed + "' has a fault", got <= -1000, fault >= 0);
                    if (fault >= 0) {
                        Check.due("run() of '" + changed + "'", got, -1000 - fault);
                    }
                }
            }
        });
    }

    // ---- promise 28, what running does

    private static void running() {
        Edges.edge(28, RUN, "a fault behind fine commands", () -> {
            dueNothing("plus abc;drop cde", -1017);
            dueNothing("mirror;derive;!", -1014);
            dueNothing("mirror;mirro", -1007);
            dueNothing("mirror;;", -1007);
        });
        Edges.edge(28, RUN, "no command at all", () -> {
            TripleSigns x = Making.ready(5);
            Check.due("run()", Making.run(x, "  "), 0);
            Check.due("derived", x.count(3), 0);
            Check.due("given", x.count(2), Making.ready(5).count(2));
        });
        Edges.edge(28, RUN, "in their order", () -> {
            TripleSigns x = new TripleSigns();
            Check.due("run()", Making.run(x, "plus abc;mirror;plus abd;drop abc;zero abc;"), 5);
            Check.due("012", x.sign(0, 1, 2), 0);
            Check.due("013", x.sign(0, 1, 3), 1);
        });
        Edges.edge(28, "Runs the script, which stays as it is.", "twice", () -> {
            TripleSigns x = Making.signs("plus abc;");
            Making.write(x, "mirror;plus cde;");
            Check.due("run()", x.run(), 2);
            Check.due("012", x.sign(0, 1, 2), -1);
            Check.due("run() again", x.run(), 2);
            Check.due("012", x.sign(0, 1, 2), 1);
            Check.due("clearScript()", x.clearScript(), 16);
        });
        Edges.edge(28, "Runs the script, which stays as it is.", "with a fault", () -> {
            TripleSigns x = new TripleSigns();
            Making.write(x, "mirror");
            Check.due("run()", x.run(), -1006);
            Check.due("run() again", x.run(), -1006);
            x.type(';');
            Check.due("run() when it is whole", x.run(), 1);
        });
    }

    /** Running it changes nothing, whatever the object holds. */
    private static void dueNothing(String text, int due) {
        for (int n : new int[] {3, 5, 8}) {
            dueNothing(() -> Making.busy(n), text, due);
            dueNothing(() -> Making.ready(n), text, due);
        }
    }

    private static void dueNothing(Edges.Maker before, String text, int due) {
        Edges.Maker maker = () -> {
            TripleSigns x = before.make();
            Making.write(x, text);
            return x;
        };
        Check.due("run() of '" + text + "'", maker.make().run(), due);
        Edges.changesNothing(maker, "run() of '" + text + "'", TripleSigns::run);
    }

    private static void stops() {
        Edges.edge(28, RUN, "the first would throw", () -> {
            TripleSigns x = new TripleSigns();
            Check.due("run()", Making.run(x, "drop abc;plus abc;"), 0);
            Check.due("given", x.count(2), 0);
        });
        Edges.edge(28, RUN, "one in the middle would throw", () -> {
            String[] wrong = {"plus abf;", "minus afb;", "zero fab;", "plus faf;", "minus hgf;", "plus aab;",
                    "minus aba;",
                "zero baa;", "plus ccc;", "drop aab;", "drop aba;", "drop baa;", "drop abf;", "drop afb;", "drop fab;",
                "drop cde;"};
            for (String command : wrong) {
                TripleSigns x = new TripleSigns();
                Check.due("run() with " + command, Making.run(x, "plus abc;" + command + "plus abd;"), 1);
                Check.due("012 stays done", x.sign(0, 1, 2), 1);
                Check.due("013 is not", x.sign(0, 1, 3), Edges.NONE);
                Check.due("given", x.count(2), 1);
            }
        });
        Edges.edge(28, RUN, "the last would throw", () -> {
            TripleSigns x = new TripleSigns();
            Check.due("run()", Making.run(x, "plus abc;mirror;drop abd;"), 2);
            Check.due("012", x.sign(0, 1, 2), -1);
        });
        Edges.edge(28, RUN, "drop of a derived triple would throw", () -> {
            TripleSigns x = Making.chain();
            Check.due("run()", Making.run(x, "drop abe;mirror;"), 0);
            Check.due("derived", x.count(3), 2);
            x.forget();
            Check.due("run() with derive", Making.run(x, "derive;drop abe;mirror;"), 1);
            Check.due("014", x.sign(0, 1, 4), -1);
        });
        Edges.edge(28, RUN, "drop twice", () -> {
            TripleSigns x = Making.signs("plus abc;");
            Check.due("run()", Making.run(x, "drop abc;drop abc;mirror;"), 1);
            Check.due("given", x.count(2), 0);
        });
    }

    private static void answers() {
        String sentence = "Returns the number of commands that were carried out; -1000 minus the fault if it has one.";
        Edges.edge(28, sentence, "none and all", () -> {
            due("", 0);
            due("drop abc;", 0);
            due("mirror;derive;mirror;", 3);
        });
        Edges.edge(28, sentence, "the first and the last fault", () -> {
            due("!", -1000);
            due(" ".repeat(119) + "!", -1119);
            due(" ".repeat(114) + "mirror", -1120);
        });
        Edges.edge(28, sentence, "commands that change nothing count", () -> {
            due("mirror;mirror;derive;", 3);
            due("plus abc;plus abc;plus abc;", 3);
        });
    }

    private static void undoable() {
        String saves = "A run saves one state, the one from before it; its commands save none.";
        Edges.edge(28, saves, "many commands", () -> {
            TripleSigns x = new TripleSigns();
            x.place(0, 1, 2);
            Check.due("run()", Making.run(x, "plus abc;mirror;minus abd;derive;drop abc;"), 5);
            Check.due("undo()", x.undo(), 1);
            Check.due("given", x.count(2), 0);
            Check.due("x of 0", x.coordinate(0, 0), 1);
            Check.due("undo()", x.undo(), 0);
            Check.dueThrow("undo()", Edges.ISE, x::undo);
        });
        Edges.edge(28, saves, "each command alone", () -> {
            String[] commands = {"plus abd;", "minus abc;", "zero abc;", "drop abc;", "derive;", "mirror;"};
            for (String command : commands) {
                TripleSigns x = new TripleSigns();
                x.give(0, 1, 2, 1);
                Check.due(command, Making.run(x, command), 1);
                Check.due(command + " undo()", x.undo(), 1);
                Check.due("012", x.sign(0, 1, 2), 1);
                Check.due("013", x.sign(0, 1, 3), Edges.NONE);
            }
        });
        Edges.edge(28, "Undoable, if it has no fault.", "it has none, and changes nothing", () -> {
            for (String text : new String[] {"", "   ", "drop abc;", "plus abf;", "mirror;"}) {
                TripleSigns x = new TripleSigns();
                Making.run(x, text);
                Check.due("undo() of '" + text + "'", x.undo(), 0);
            }
        });
        Edges.edge(28, "Undoable, if it has no fault.", "it has one", () -> {
            for (String text : new String[] {"!", "mirror", "mirror;!", "plus abc;plus ab;"}) {
                TripleSigns x = new TripleSigns();
                Making.run(x, text);
                Check.dueThrow("undo() of '" + text + "'", Edges.ISE, x::undo);
            }
        });
        Edges.edge(28, "Undoable, if it has no fault.", "all that a state has comes back", () -> {
            Edges.undoable("run()", TripleSigns::run);
            Edges.undoable("run() twice, undone once", x -> {
                x.run();
                return x.undo() + x.run();
            });
        });
    }
}
