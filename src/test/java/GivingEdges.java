/** Edges of promises 1 to 5: what a new object holds, and signs that are given and taken away. */
final class GivingEdges {
    private static final int[] NO_SIGNS = {-2, 2, 3, Edges.NONE, Edges.MAX, Edges.MIN};

    private GivingEdges() {
    }

    static void all() {
        newObject();
        newObjectIsEmpty();
        begin();
        beginKeeps();
        give();
        giveRefuses();
        giveOrder();
        giveChanges();
        giveDerived();
        drop();
        dropRefuses();
        dropOrder();
        setUniform();
    }

    private static void newObject() {
        Edges.edge(1, "There are n points (3 to 8, 5 at first), numbered from 0 and named by the letters a to h.",
                "a new object has five", () -> {
            TripleSigns x = new TripleSigns();
            Check.due("count(0)", x.count(0), 5);
            Check.due("sign(0, 4, 4)", x.sign(0, 4, 4), 0);
            Check.dueThrow("sign(0, 4, 5)", Edges.IOOBE, () -> x.sign(0, 4, 5));
            Check.dueThrow("sign(-1, 0, 4)", Edges.IOOBE, () -> x.sign(-1, 0, 4));
        });
        Edges.edge(1, "A triple is a set of three points i < j < k; the triples are numbered from 0 in lexicographic "
                + "order.",
                "a new object has ten", () -> {
            TripleSigns x = new TripleSigns();
            Check.due("count(1)", x.count(1), 10);
            int[][] due = {{0, 1, 2}, {0, 1, 3}, {0, 1, 4}, {0, 2, 3}, {0, 2, 4},
                {0, 3, 4}, {1, 2, 3}, {1, 2, 4}, {1, 3, 4}, {2, 3, 4}};
            for (int t = 0; t < 10; t++) {
                for (int p = 0; p < 3; p++) {
                    Check.due("triple(" + t + ", " + p + ")", x.triple(t, p), due[t][p]);
                }
            }
        });
        Edges.edge(1, "A triple has a sign, -1, 0 or 1, or is unknown (at first).", "all of them are unknown", () -> {
            TripleSigns x = new TripleSigns();
            Check.due("unknown", x.count(4), 10);
            for (int t = 0; t < 10; t++) {
                Check.due("sign of " + t, x.triple(t, 3), Edges.NONE);
                Check.due("kind of " + t, x.triple(t, 4), 0);
            }
        });
        Edges.edge(1, "A point may have coordinates x and y (-50 to 50); it has none at first.",
                "no point has any", () -> {
            TripleSigns x = new TripleSigns();
            for (int p = 0; p < 5; p++) {
                Check.due("x of " + p, x.coordinate(p, 0), Edges.NONE);
                Check.due("y of " + p, x.coordinate(p, 1), Edges.NONE);
            }
        });
        Edges.edge(1, "The uniform mode is off at first.", "a new object", () -> {
            TripleSigns x = new TripleSigns();
            Check.due("count(9)", x.count(9), 0);
            Check.due("setUniform(true)", x.setUniform(true), false);
        });
    }

    private static void newObjectIsEmpty() {
        String sentence = "Creates a workbench as described, without signs and coordinates, with an empty script and "
                + "an empty undo stack.";
        Edges.edge(1, sentence, "no sign is given or derived, and there is no contradiction", () -> {
            TripleSigns x = new TripleSigns();
            Check.due("given", x.count(2), 0);
            Check.due("derived", x.count(3), 0);
            Check.due("contradiction", x.count(8), Edges.NONE);
            Check.due("written(0)", x.written(0), Edges.NONE);
        });
        Edges.edge(1, sentence, "the script is empty", () -> {
            Check.due("clearScript()", new TripleSigns().clearScript(), 0);
            Check.due("type(65)", new TripleSigns().type(65), 1);
            Check.due("run()", new TripleSigns().run(), 0);
        });
        Edges.edge(1, sentence, "the undo stack is empty", () ->
                Check.dueThrow("undo()", Edges.ISE, () -> new TripleSigns().undo()));
        Edges.edge(1, sentence, "one object shows nothing of another", () -> {
            long before = new TripleSigns().digest();
            TripleSigns busy = Making.busy(8);
            Check.due("digest() of a new one", new TripleSigns().digest(), before);
            long held = busy.digest();
            Making.busy(5);
            Check.due("digest() of the first one", busy.digest(), held);
        });
        Edges.edge(1, "An object is used for at most 512 calls after it has been made", "the 512th still holds", () -> {
            TripleSigns x = new TripleSigns();
            TripleSigns twin = new TripleSigns();
            for (int call = 1; call <= 505; call++) {
                x.scatter(call, 50, 50);
            }
            for (TripleSigns one : new TripleSigns[] {x, twin}) {
                one.begin(5);
                one.place(0, 1, 2);
                one.give(0, 1, 2, 1);
                one.setUniform(true);
                one.mirror();
                one.type('a');
            }
            Check.due("call 512: digest()", x.digest(), twin.digest());
        });
        Edges.edge(1, "`NONE = -100`: Returned where there is no such value.", "its value", () -> {
            Check.due("NONE", TripleSigns.NONE, -100);
            Check.due("sign(0, 1, 2)", new TripleSigns().sign(0, 1, 2), -100);
        });
    }

    private static void begin() {
        Edges.edge(2, "`points`: 3 to 8", "three is the least", () -> {
            TripleSigns x = new TripleSigns();
            Check.due("begin(3)", x.begin(3), 1);
            Check.due("count(0)", x.count(0), 3);
            Check.due("sign(0, 1, 2)", x.sign(0, 1, 2), Edges.NONE);
            Check.dueThrow("sign(0, 1, 3)", Edges.IOOBE, () -> x.sign(0, 1, 3));
        });
        Edges.edge(2, "`points`: 3 to 8", "eight is the most", () -> {
            TripleSigns x = new TripleSigns();
            Check.due("begin(8)", x.begin(8), 56);
            Check.due("count(0)", x.count(0), 8);
            Check.due("sign(5, 6, 7)", x.sign(5, 6, 7), Edges.NONE);
            Check.dueThrow("sign(5, 6, 8)", Edges.IOOBE, () -> x.sign(5, 6, 8));
        });
        Edges.edge(2, "Throws `IllegalArgumentException` if points is out of range", "two, nine and others", () ->
                Edges.refusedEach(new int[] {2, 9, 1, 0, -1, -3, -8, Edges.NONE, Edges.MAX, Edges.MIN}, Edges.IAE,
                        "begin", TripleSigns::begin));
        Edges.edge(2, "Returns the number of triples.", "for each number of points", () -> {
            int[] triples = {1, 4, 10, 20, 35, 56};
            for (int n = 3; n <= 8; n++) {
                TripleSigns x = new TripleSigns();
                Check.due("begin(" + n + ")", x.begin(n), triples[n - 3]);
                Check.due("count(1)", x.count(1), triples[n - 3]);
            }
        });
        Edges.edge(2, "Undoable.", "the points before and all about them come back", () -> {
            for (int points : new int[] {3, 5, 8}) {
                Edges.undoable("begin(" + points + ")", x -> x.begin(points));
            }
        });
    }

    private static void beginKeeps() {
        String sentence = "Begins anew with a number of points: without signs and coordinates;";
        Edges.edge(2, sentence, "as many points as before", () -> {
            TripleSigns x = Making.busy(5);
            x.begin(5);
            Check.due("given", x.count(2), 0);
            Check.due("derived", x.count(3), 0);
            Check.due("unknown", x.count(4), 10);
            for (int p = 0; p < 5; p++) {
                Check.due("x of " + p, x.coordinate(p, 0), Edges.NONE);
                Check.due("y of " + p, x.coordinate(p, 1), Edges.NONE);
            }
            Check.due("written(0)", x.written(0), Edges.NONE);
        });
        Edges.edge(2, sentence, "a contradiction goes with the signs", () -> {
            TripleSigns x = Making.contradicted();
            Check.due("before", x.count(8), 1);
            x.begin(5);
            Check.due("count(8)", x.count(8), Edges.NONE);
        });
        Edges.edge(2, sentence, "signs of more points do not come back with them", () -> {
            TripleSigns x = Making.parabola(8);
            x.begin(3);
            Check.due("unknown of three", x.count(4), 1);
            x.begin(8);
            Check.due("unknown of eight", x.count(4), 56);
            Check.due("x of 7", x.coordinate(7, 0), Edges.NONE);
            Check.due("sign of 55", x.triple(55, 3), Edges.NONE);
        });
        String stays = "the uniform mode, the script and the undo stack stay.";
        Edges.edge(2, stays, "the uniform mode stays on, and off", () -> {
            TripleSigns x = new TripleSigns();
            x.setUniform(true);
            x.begin(6);
            Check.due("on", x.count(9), 1);
            x.setUniform(false);
            x.begin(6);
            Check.due("off", x.count(9), 0);
        });
        Edges.edge(2, stays, "the script stays", () -> {
            TripleSigns x = new TripleSigns();
            Making.write(x, "plus abc;");
            x.begin(8);
            Check.due("run()", x.run(), 1);
            Check.due("012", x.sign(0, 1, 2), 1);
            Check.due("clearScript()", x.clearScript(), 9);
        });
        Edges.edge(2, stays, "the undo stack stays", () -> {
            TripleSigns x = new TripleSigns();
            x.give(0, 1, 2, 1);
            x.give(0, 1, 3, 1);
            x.begin(8);
            Check.due("undo() of begin()", x.undo(), 2);
            Check.due("given", x.count(2), 2);
            Check.due("undo()", x.undo(), 1);
            Check.due("given", x.count(2), 1);
        });
    }

    private static void give() {
        Edges.edge(3, "`sign`: -1, 0 or 1", "each of them is taken", () -> {
            for (int sign = -1; sign <= 1; sign++) {
                TripleSigns x = new TripleSigns();
                x.give(0, 1, 2, sign);
                Check.due("sign(0, 1, 2)", x.sign(0, 1, 2), sign);
                Check.due("triple(0, 4)", x.triple(0, 4), 1);
            }
        });
        Edges.edge(3, "`i`: a point", "the first and the last one", () -> {
            Check.due("the first", new TripleSigns().give(0, 3, 4, 1), Edges.NONE);
            Check.due("the last of three", Making.points(3).give(2, 0, 1, 1), Edges.NONE);
            Check.due("the last of eight", Making.points(8).give(7, 0, 1, 1), Edges.NONE);
        });
        Edges.edge(3, "`j`: another point", "the first and the last one", () -> {
            Check.due("the first", new TripleSigns().give(3, 0, 4, 1), Edges.NONE);
            Check.due("the last of three", Making.points(3).give(0, 2, 1, 1), Edges.NONE);
            Check.due("the last of eight", Making.points(8).give(0, 7, 1, 1), Edges.NONE);
        });
        Edges.edge(3, "`k`: a third point", "the first and the last one", () -> {
            Check.due("the first", new TripleSigns().give(3, 4, 0, 1), Edges.NONE);
            Check.due("the last of three", Making.points(3).give(0, 1, 2, 1), Edges.NONE);
            Check.due("the last of eight", Making.points(8).give(0, 1, 7, 1), Edges.NONE);
        });
        Edges.edge(3, "Gives a triple a sign, which is told for an ordered triple.",
                "each order of each triple", () -> {
            for (int i = 0; i < 8; i++) {
                for (int j = 0; j < 8; j++) {
                    for (int k = 0; k < 8; k++) {
                        giveInOrder(i, j, k);
                    }
                }
            }
        });
        Edges.edge(3, "Returns the sign of the ordered triple before; NONE if it was unknown.", "unknown", () -> {
            Check.due("an even order", new TripleSigns().give(1, 2, 0, 1), Edges.NONE);
            Check.due("an odd order", new TripleSigns().give(2, 1, 0, 1), Edges.NONE);
        });
        Edges.edge(3, "Returns the sign of the ordered triple before; NONE if it was unknown.",
                "each sign before", () -> {
            for (int sign = -1; sign <= 1; sign++) {
                TripleSigns x = new TripleSigns();
                x.give(0, 1, 2, sign);
                Check.due("an even order", x.give(1, 2, 0, sign), sign);
                Check.due("an odd order", x.give(0, 2, 1, 1), -sign);
                Check.due("the order of the last one", x.give(0, 2, 1, -1), 1);
            }
        });
        Edges.edge(3, "Undoable.", "a new sign, another one, and the one that it has", () -> {
            for (int sign = -1; sign <= 1; sign++) {
                int given = sign;
                Edges.undoable("give(0, 1, 2, " + sign + ")", x -> x.give(0, 1, 2, given));
                Edges.undoable(() -> Making.busyPlaced(8), "give(5, 6, 7)", x -> x.give(5, 6, 7, given));
            }
        });
    }

    private static void giveInOrder(int i, int j, int k) {
        int parity = Making.parity(i, j, k);
        if (parity == 0) {
            return;
        }
        TripleSigns x = Making.points(8);
        x.give(i, j, k, 1);
        int low = Math.min(i, Math.min(j, k));
        int high = Math.max(i, Math.max(j, k));
        Check.due("ascending, for " + i + j + k, x.sign(low, i + j + k - low - high, high), parity);
        Check.due("given", x.count(2), 1);
    }

    private static void giveRefuses() {
        String points = "Throws `IndexOutOfBoundsException` if there is no such point";
        Edges.edge(3, points, "the first is none", () ->
                Edges.noSuchPoint("give(i, 1, 2, 1)", (x, wrong) -> x.give(wrong, 1, 2, 1)));
        Edges.edge(3, points, "the second is none", () ->
                Edges.noSuchPoint("give(1, j, 2, 1)", (x, wrong) -> x.give(1, wrong, 2, 1)));
        Edges.edge(3, points, "the third is none", () ->
                Edges.noSuchPoint("give(1, 2, k, 1)", (x, wrong) -> x.give(1, 2, wrong, 1)));
        String others = "Throws `IllegalArgumentException` if two of the points are equal, or sign is out of range";
        Edges.edge(3, others, "each two of them are equal", () -> {
            Edges.refused(Edges.IAE, "give(1, 1, 2, 1)", x -> x.give(1, 1, 2, 1));
            Edges.refused(Edges.IAE, "give(1, 2, 1, 1)", x -> x.give(1, 2, 1, 1));
            Edges.refused(Edges.IAE, "give(2, 1, 1, 1)", x -> x.give(2, 1, 1, 1));
        });
        Edges.edge(3, others, "all are equal", () ->
                Edges.refused(Edges.IAE, "give(0, 0, 0, 0)", x -> x.give(0, 0, 0, 0)));
        Edges.edge(3, others, "the sign is none", () ->
                Edges.refusedEach(NO_SIGNS, Edges.IAE, "give(0, 1, 2, sign)",
                        (x, wrong) -> x.give(0, 1, 2, wrong)));
    }

    private static void giveOrder() {
        String first = "If several exceptions of a method apply, the one that is listed first is thrown.";
        Edges.edge(3, first, "no such point comes before equal points", () -> {
            Edges.refused(Edges.IOOBE, "give(8, 8, 8, 1)", x -> x.give(8, 8, 8, 1));
            Edges.refused(Edges.IOOBE, "give(1, 1, 8, 1)", x -> x.give(1, 1, 8, 1));
            Edges.refused(Edges.IOOBE, "give(1, -1, 1, 1)", x -> x.give(1, -1, 1, 1));
            Edges.refused(Edges.IOOBE, "give(-1, 1, 1, 1)", x -> x.give(-1, 1, 1, 1));
        });
        Edges.edge(3, first, "no such point comes before no such sign", () -> {
            Edges.refused(Edges.IOOBE, "give(8, 1, 2, 2)", x -> x.give(8, 1, 2, 2));
            Edges.refused(Edges.IOOBE, "give(1, 8, 2, -2)", x -> x.give(1, 8, 2, -2));
            Edges.refused(Edges.IOOBE, "give(1, 2, -1, MAX)", x -> x.give(1, 2, -1, Edges.MAX));
        });
        Edges.edge(3, first, "all three", () ->
                Edges.refused(Edges.IOOBE, "give(1, 1, 8, 2)", x -> x.give(1, 1, 8, 2)));
    }

    private static void giveChanges() {
        String same = "Giving a given triple the sign that it has changes nothing.";
        Edges.edge(3, same, "derived triples stay", () -> {
            TripleSigns x = Making.chain();
            Check.due("give(0, 1, 2, 1)", x.give(0, 1, 2, 1), 1);
            Check.due("derived", x.count(3), 2);
            Check.due("give(1, 0, 2, -1)", x.give(1, 0, 2, -1), -1);
            Check.due("derived", x.count(3), 2);
            Check.due("give(3, 1, 0, 0)", x.give(3, 1, 0, 0), 0);
            Check.due("derived", x.count(3), 2);
        });
        Edges.edge(3, same, "a contradiction stays", () -> {
            TripleSigns x = Making.contradicted();
            x.give(0, 1, 2, 1);
            Check.due("count(8)", x.count(8), 1);
            x.give(1, 0, 3, 0);
            Check.due("count(8)", x.count(8), 1);
        });
        String change = "Whenever a given sign changes (but by mirror() and turn()) or is taken away, all derived "
                + "triples become unknown, and a contradiction is forgotten.";
        Edges.edge(3, change, "another sign makes derived triples unknown", () -> {
            for (int sign = -1; sign <= 0; sign++) {
                TripleSigns x = Making.chain();
                Check.due("give()", x.give(0, 1, 2, sign), 1);
                Check.due("derived", x.count(3), 0);
                Check.due("given", x.count(2), 7);
                Check.due("unknown", x.count(4), 3);
                Check.due("014", x.triple(2, 3), Edges.NONE);
                Check.due("134", x.triple(8, 3), Edges.NONE);
            }
        });
        Edges.edge(3, change, "another sign for a triple that nothing was derived from", () -> {
            TripleSigns x = Making.chain();
            x.give(2, 3, 4, 1);
            Check.due("derived", x.count(3), 2);
            x.give(2, 3, 4, 0);
            Check.due("derived", x.count(3), 0);
        });
        Edges.edge(3, change, "another sign forgets a contradiction", () -> {
            for (int sign = -1; sign <= 0; sign++) {
                TripleSigns x = Making.contradicted();
                x.give(0, 1, 2, sign);
                Check.due("count(8)", x.count(8), Edges.NONE);
            }
        });
        String unknown = "(Giving an unknown triple a sign does not do this, but forgets a contradiction, too.)";
        Edges.edge(3, unknown, "derived triples stay", () -> {
            TripleSigns x = Making.chain();
            x.give(2, 3, 4, 0);
            Check.due("derived", x.count(3), 2);
            Check.due("014: step", x.triple(2, 6), 1);
            Check.due("134: step", x.triple(8, 6), 2);
        });
        Edges.edge(3, unknown, "a contradiction is forgotten", () -> {
            TripleSigns x = Making.contradicted();
            x.give(2, 3, 4, 1);
            Check.due("count(8)", x.count(8), Edges.NONE);
            Check.due("derived", x.count(3), 1);
        });
        Edges.edge(3, "(In it signs 0 can be given all the same.)", "a new sign, and another one", () -> {
            TripleSigns x = new TripleSigns();
            x.setUniform(true);
            Check.due("an unknown triple", x.give(0, 1, 2, 0), Edges.NONE);
            Check.due("012", x.sign(0, 1, 2), 0);
            x.give(0, 1, 3, 1);
            Check.due("a given triple", x.give(0, 1, 3, 0), 1);
            Check.due("013", x.sign(0, 1, 3), 0);
        });
    }

    private static void giveDerived() {
        String derived = "A derived triple that is given a sign, also the one that it has, becomes a given one, "
                + "which counts as a change: all other derived triples become unknown.";
        Edges.edge(3, derived, "the sign that it has", () -> {
            TripleSigns x = Making.chain();
            Check.due("give(0, 1, 4, -1)", x.give(0, 1, 4, -1), -1);
            Check.due("014 is given", x.triple(2, 4), 1);
            Check.due("014: relation", x.triple(2, 5), Edges.NONE);
            Check.due("014: step", x.triple(2, 6), Edges.NONE);
            Check.due("014: reasons", x.reasons(2), 4);
            Check.due("134 is unknown", x.triple(8, 4), 0);
            Check.due("134: sign", x.triple(8, 3), Edges.NONE);
            Check.due("given", x.count(2), 8);
        });
        Edges.edge(3, derived, "the one that came last", () -> {
            TripleSigns x = Making.chain();
            Check.due("give(3, 1, 4, -1)", x.give(3, 1, 4, -1), -1);
            Check.due("134 is given", x.triple(8, 4), 1);
            Check.due("134: sign", x.triple(8, 3), 1);
            Check.due("014 is unknown", x.triple(2, 4), 0);
        });
        Edges.edge(3, derived, "another sign", () -> {
            for (int sign = 0; sign <= 1; sign++) {
                TripleSigns x = Making.chain();
                Check.due("give()", x.give(0, 1, 4, sign), -1);
                Check.due("014 is given", x.triple(2, 4), 1);
                Check.due("014: sign", x.triple(2, 3), sign);
                Check.due("derived", x.count(3), 0);
            }
        });
        Edges.edge(3, derived, "a contradiction is forgotten", () -> {
            TripleSigns x = Making.contradicted();
            x.give(0, 1, 4, -1);
            Check.due("count(8)", x.count(8), Edges.NONE);
        });
    }

    private static void drop() {
        Edges.edge(4, "Takes the sign of a given triple away; it is unknown then.", "the only one", () -> {
            TripleSigns x = new TripleSigns();
            x.give(0, 1, 2, 1);
            x.drop(0, 1, 2);
            Check.due("kind", x.triple(0, 4), 0);
            Check.due("sign", x.triple(0, 3), Edges.NONE);
            Check.due("reasons", x.reasons(0), 0);
            Check.due("given", x.count(2), 0);
        });
        Edges.edge(4, "Takes the sign of a given triple away; it is unknown then.", "the last of eight points'", () -> {
            TripleSigns x = Making.parabola(8);
            Check.due("drop(7, 6, 5)", x.drop(7, 6, 5), -1);
            Check.due("unknown", x.count(4), 1);
            Check.due("kind", x.triple(55, 4), 0);
        });
        Edges.edge(4, "Returns the sign of the ordered triple before.", "each sign in both orders", () -> {
            for (int sign = -1; sign <= 1; sign++) {
                Check.due("even", given(sign).drop(2, 0, 1), sign);
                Check.due("odd", given(sign).drop(2, 1, 0), -sign);
            }
        });
        String change = "or is taken away, all derived triples become unknown, and a contradiction is forgotten.";
        Edges.edge(4, change, "derived triples become unknown", () -> {
            TripleSigns x = Making.chain();
            x.drop(0, 1, 2);
            Check.due("derived", x.count(3), 0);
            Check.due("given", x.count(2), 6);
            Check.due("unknown", x.count(4), 4);
        });
        Edges.edge(4, change, "a contradiction is forgotten", () -> {
            TripleSigns x = Making.contradicted();
            x.drop(0, 1, 3);
            Check.due("count(8)", x.count(8), Edges.NONE);
        });
        Edges.edge(4, "Undoable.", "with three, five and eight points", () ->
                Edges.undoable("drop(0, 1, 2)", x -> x.drop(0, 1, 2)));
    }

    private static TripleSigns given(int sign) {
        TripleSigns x = new TripleSigns();
        x.give(0, 1, 2, sign);
        return x;
    }

    private static void dropRefuses() {
        String points = "Throws `IndexOutOfBoundsException` if there is no such point";
        Edges.edge(4, points, "the first is none", () ->
                Edges.noSuchPoint("drop(i, 1, 2)", (x, wrong) -> x.drop(wrong, 1, 2)));
        Edges.edge(4, points, "the second is none", () ->
                Edges.noSuchPoint("drop(1, j, 2)", (x, wrong) -> x.drop(1, wrong, 2)));
        Edges.edge(4, points, "the third is none", () ->
                Edges.noSuchPoint("drop(1, 2, k)", (x, wrong) -> x.drop(1, 2, wrong)));
        Edges.edge(4, "`i`: a point", "the first and the last one", () -> {
            Check.due("the first", given(1).drop(0, 1, 2), 1);
            Check.due("the last of eight", Making.parabola(8).drop(7, 0, 1), 1);
        });
        Edges.edge(4, "`j`: another point", "the first and the last one", () -> {
            Check.due("the first", given(1).drop(1, 0, 2), -1);
            Check.due("the last of eight", Making.parabola(8).drop(0, 7, 1), -1);
        });
        Edges.edge(4, "`k`: a third point", "the first and the last one", () -> {
            Check.due("the first", given(1).drop(2, 1, 0), -1);
            Check.due("the last of eight", Making.parabola(8).drop(0, 1, 7), 1);
        });
        Edges.edge(4, "Throws `IllegalArgumentException` if two of the points are equal", "each two, and all", () -> {
            Edges.refused(Edges.IAE, "drop(1, 1, 2)", x -> x.drop(1, 1, 2));
            Edges.refused(Edges.IAE, "drop(1, 2, 1)", x -> x.drop(1, 2, 1));
            Edges.refused(Edges.IAE, "drop(2, 1, 1)", x -> x.drop(2, 1, 1));
            Edges.refused(Edges.IAE, "drop(0, 0, 0)", x -> x.drop(0, 0, 0));
        });
        String state = "Throws `IllegalStateException` if the triple is not given";
        Edges.edge(4, state, "it is unknown", () -> {
            Edges.refused(() -> Making.busy(5), Edges.ISE, "drop(2, 3, 4)", x -> x.drop(2, 3, 4));
            Edges.refused(() -> Making.busy(8), Edges.ISE, "drop(5, 6, 7)", x -> x.drop(5, 6, 7));
            Edges.refused(() -> Making.points(3), Edges.ISE, "drop(0, 1, 2)", x -> x.drop(0, 1, 2));
        });
        Edges.edge(4, state, "it is derived", () -> {
            Edges.refused(Making::chain, Edges.ISE, "drop(0, 1, 4)", x -> x.drop(0, 1, 4));
            Edges.refused(() -> Making.busy(5), Edges.ISE, "drop(4, 1, 0)", x -> x.drop(4, 1, 0));
            Edges.refused(() -> Making.busy(8), Edges.ISE, "drop(4, 1, 0)", x -> x.drop(4, 1, 0));
        });
        Edges.edge(4, state, "it was dropped before", () ->
                Edges.refused(() -> {
                    TripleSigns x = given(1);
                    x.drop(0, 1, 2);
                    return x;
                }, Edges.ISE, "drop(0, 1, 2) again", x -> x.drop(0, 1, 2)));
    }

    private static void dropOrder() {
        String first = "If several exceptions of a method apply, the one that is listed first is thrown.";
        Edges.edge(4, first, "no such point comes before equal points", () -> {
            Edges.refused(Edges.IOOBE, "drop(8, 8, 8)", x -> x.drop(8, 8, 8));
            Edges.refused(Edges.IOOBE, "drop(1, 1, 8)", x -> x.drop(1, 1, 8));
            Edges.refused(Edges.IOOBE, "drop(1, -1, 1)", x -> x.drop(1, -1, 1));
            Edges.refused(Edges.IOOBE, "drop(-1, 1, 1)", x -> x.drop(-1, 1, 1));
        });
        Edges.edge(4, first, "equal points come before what is not given", () ->
                Edges.refused(TripleSigns::new, Edges.IAE, "drop(0, 0, 1)", x -> x.drop(0, 0, 1)));
        Edges.edge(4, first, "no such point comes before what is not given", () ->
                Edges.refused(TripleSigns::new, Edges.IOOBE, "drop(0, 1, 5)", x -> x.drop(0, 1, 5)));
    }

    private static void setUniform() {
        String sentence = "Sets the uniform mode. All derived triples become unknown, and a contradiction is "
                + "forgotten, also if the mode stays as it was.";
        Edges.edge(5, sentence, "the mode changes", () -> {
            TripleSigns x = Making.chain();
            x.setUniform(true);
            Check.due("count(9)", x.count(9), 1);
            Check.due("derived", x.count(3), 0);
            Check.due("given", x.count(2), 7);
            TripleSigns against = Making.contradicted();
            against.setUniform(true);
            Check.due("contradiction", against.count(8), Edges.NONE);
        });
        Edges.edge(5, sentence, "the mode stays off", () -> {
            TripleSigns x = Making.chain();
            x.setUniform(false);
            Check.due("count(9)", x.count(9), 0);
            Check.due("derived", x.count(3), 0);
            TripleSigns against = Making.contradicted();
            against.setUniform(false);
            Check.due("contradiction", against.count(8), Edges.NONE);
        });
        Edges.edge(5, sentence, "the mode stays on", () -> {
            TripleSigns x = Making.busy(5);
            x.setUniform(true);
            Check.due("count(9)", x.count(9), 1);
            Check.due("derived", x.count(3), 0);
            Check.due("contradiction", x.count(8), Edges.NONE);
        });
        Edges.edge(5, "`uniform`: true for the uniform mode", "both", () -> {
            TripleSigns x = new TripleSigns();
            x.setUniform(true);
            Check.due("on", x.count(9), 1);
            x.setUniform(false);
            Check.due("off", x.count(9), 0);
        });
        Edges.edge(5, "Returns true if it was on before.", "each way", () -> {
            TripleSigns x = new TripleSigns();
            Check.due("off to off", x.setUniform(false), false);
            Check.due("off to on", x.setUniform(true), false);
            Check.due("on to on", x.setUniform(true), true);
            Check.due("on to off", x.setUniform(false), true);
            Check.due("off again", x.setUniform(true), false);
        });
        Edges.edge(5, "Undoable.", "the mode, derived triples and a contradiction come back", () -> {
            Edges.undoable("setUniform(false)", x -> x.setUniform(false) ? 1 : 0);
            Edges.undoable("setUniform(true)", x -> x.setUniform(true) ? 1 : 0);
        });
    }
}
