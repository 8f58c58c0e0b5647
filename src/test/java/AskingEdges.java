/** Edges of promises 11 to 16: what is asked about triples and relations. */
final class AskingEdges {
    private static final String FIRST =
            "If several exceptions of a method apply, the one that is listed first is thrown.";
    private static final int[] POINTS = {3, 5, 8};
    private static final int[] TRIPLES = {1, 10, 56};
    private static final int[] RELATIONS = {0, 5, 280};

    private AskingEdges() {
    }

    static void all() {
        sign();
        signRefuses();
        triple();
        tripleRefuses();
        reasons();
        count();
        countsOf();
        relation();
        products();
        verdicts();
        relationRefuses();
        behind();
    }

    /** As refused(), with numbers just outside of those that there are, and far from them. */
    private static void noSuchNumber(int[] sizes, String told, Edges.CallWith call) {
        for (int s = 0; s < POINTS.length; s++) {
            int n = POINTS[s];
            for (int wrong : new int[] {-1, sizes[s], sizes[s] + 1, 280, Edges.NONE, Edges.MAX, Edges.MIN, 1 << 30}) {
                Edges.refused(n, Edges.IOOBE, told + " with " + wrong, x -> call.on(x, wrong));
            }
        }
    }

    private static void sign() {
        String sentence = "The sign of an ordered triple (i, j, k) of points is 0 if two of them are equal; "
                + "otherwise it is the sign of the triple {i, j, k}, multiplied by -1 if an odd number of exchanges "
                + "brings i, j, k into ascending order. It is unknown if the triple is.";
        Edges.edge(11, sentence, "two and three equal points, also of unknown triples", () -> {
            TripleSigns x = new TripleSigns();
            for (int p = 0; p < 5; p++) {
                for (int q = 0; q < 5; q++) {
                    Check.due("sign(p, p, q)", x.sign(p, p, q), 0);
                    Check.due("sign(p, q, p)", x.sign(p, q, p), 0);
                    Check.due("sign(q, p, p)", x.sign(q, p, p), 0);
                }
            }
        });
        Edges.edge(11, sentence, "each order of each triple of eight points", () -> {
            for (int first = 0; first < 8; first++) {
                TripleSigns x = Making.parabola(8);
                for (int j = 0; j < 8; j++) {
                    for (int k = 0; k < 8; k++) {
                        Check.due("sign(" + first + ", " + j + ", " + k + ")", x.sign(first, j, k),
                                Making.parity(first, j, k));
                    }
                }
            }
        });
        Edges.edge(11, sentence, "0 and unknown in an odd order", () -> {
            TripleSigns x = Making.signs("zero abc;");
            Check.due("sign(1, 0, 2)", x.sign(1, 0, 2), 0);
            Check.due("sign(2, 1, 0)", x.sign(2, 1, 0), 0);
            Check.due("sign(1, 0, 3)", x.sign(1, 0, 3), Edges.NONE);
            Check.due("sign(0, 3, 1)", x.sign(0, 3, 1), Edges.NONE);
        });
        Edges.edge(11, "Returns the sign; NONE if it is unknown.", "given, derived and unknown", () -> {
            TripleSigns x = Making.chain();
            Check.due("given", x.sign(0, 1, 2), 1);
            Check.due("derived", x.sign(0, 1, 4), -1);
            Check.due("derived, in another order", x.sign(4, 1, 0), 1);
            Check.due("unknown", x.sign(2, 3, 4), Edges.NONE);
        });
        Edges.edge(11, "Returns the sign of an ordered triple.", "nothing changes by it", () ->
                Edges.changesNothing("sign(0, 1, 2)", x -> x.sign(0, 1, 2)));
    }

    private static void signRefuses() {
        String points = "Throws `IndexOutOfBoundsException` if there is no such point";
        Edges.edge(11, points, "the first is none", () ->
                Edges.noSuchPoint("sign(i, 0, 1)", (x, wrong) -> x.sign(wrong, 0, 1)));
        Edges.edge(11, points, "the second is none", () ->
                Edges.noSuchPoint("sign(0, j, 1)", (x, wrong) -> x.sign(0, wrong, 1)));
        Edges.edge(11, points, "the third is none", () ->
                Edges.noSuchPoint("sign(0, 1, k)", (x, wrong) -> x.sign(0, 1, wrong)));
        Edges.edge(11, points, "equal points are no sign 0 then", () -> {
            Edges.noSuchPoint("sign(i, i, i)", (x, wrong) -> x.sign(wrong, wrong, wrong));
            Edges.noSuchPoint("sign(0, 0, k)", (x, wrong) -> x.sign(0, 0, wrong));
            Edges.noSuchPoint("sign(0, j, 0)", (x, wrong) -> x.sign(0, wrong, 0));
            Edges.noSuchPoint("sign(i, 0, 0)", (x, wrong) -> x.sign(wrong, 0, 0));
        });
        Edges.edge(11, "NONE is returned only if no exception applies.", "an unknown sign of no point", () -> {
            Edges.refused(TripleSigns::new, Edges.IOOBE, "sign(0, 1, 5)", x -> x.sign(0, 1, 5));
            Edges.refused(TripleSigns::new, Edges.IAE, "triple(0, 7)", x -> x.triple(0, 7));
            Edges.refused(TripleSigns::new, Edges.IAE, "coordinate(0, 2)", x -> x.coordinate(0, 2));
            Edges.refused(TripleSigns::new, Edges.IAE, "written(-1)", x -> x.written(-1));
            Edges.refused(TripleSigns::new, Edges.IAE, "give(0, 1, 2, 2)", x -> x.give(0, 1, 2, 2));
        });
        for (String name : new String[] {"`i`: a point", "`j`: a point", "`k`: a point"}) {
            Edges.edge(11, name, "the first and the last one of eight", () -> {
                TripleSigns x = Making.parabola(8);
                Check.due("sign(0, 7, 3)", x.sign(0, 7, 3), -1);
                Check.due("sign(3, 0, 7)", x.sign(3, 0, 7), -1);
                Check.due("sign(7, 3, 0)", x.sign(7, 3, 0), -1);
            });
        }
    }

    private static void triple() {
        String what = "`what`: 0 to 2 its points in ascending order, 3 sign (NONE if it is unknown), 4 0 if it is "
                + "unknown, 1 if it is given or 2 if it is derived, 5 relation and 6 step of a derived one "
                + "(otherwise NONE)";
        Edges.edge(12, what, "a given triple", () ->
                dueTriple(Making.chain(), 1, 0, 1, 3, 0, 1, Edges.NONE, Edges.NONE));
        Edges.edge(12, what, "a derived triple", () -> dueTriple(Making.chain(), 8, 1, 3, 4, 1, 2, 1, 2));
        Edges.edge(12, what, "a derived triple whose relation is number 0", () ->
                dueTriple(Making.chain(), 2, 0, 1, 4, -1, 2, 0, 1));
        Edges.edge(12, what, "an unknown triple", () ->
                dueTriple(Making.chain(), 9, 2, 3, 4, Edges.NONE, 0, Edges.NONE, Edges.NONE));
        Edges.edge(12, what, "a triple that was derived and is forgotten", () -> {
            TripleSigns x = Making.chain();
            x.forget();
            dueTriple(x, 8, 1, 3, 4, Edges.NONE, 0, Edges.NONE, Edges.NONE);
        });
        Edges.edge(12, "A triple with a sign is given, or it is derived.", "every triple is counted once", () -> {
            TripleSigns x = Making.chain();
            int[] kinds = new int[3];
            for (int t = 0; t < 10; t++) {
                kinds[x.triple(t, 4)]++;
                Check.due("a sign or none", x.triple(t, 3) == Edges.NONE, x.triple(t, 4) == 0);
            }
            Check.due("unknown", kinds[0], x.count(4));
            Check.due("given", kinds[1], x.count(2));
            Check.due("derived", kinds[2], x.count(3));
        });
        Edges.edge(12, "Returns that value.", "nothing changes by it", () ->
                Edges.changesNothing("triple(2, 6)", x -> x.triple(2, 6)));
    }

    private static void dueTriple(TripleSigns x, int triple, int... due) {
        for (int what = 0; what <= 6; what++) {
            Check.due("triple(" + triple + ", " + what + ")", x.triple(triple, what), due[what]);
        }
    }

    private static void tripleRefuses() {
        Edges.edge(12, "`triple`: number of a triple", "the first and the last one", () -> {
            for (int n = 3; n <= 8; n++) {
                TripleSigns x = Making.points(n);
                Check.due("the first of " + n, x.triple(0, 2), 2);
                Check.due("the last of " + n, x.triple(x.count(1) - 1, 0), n - 3);
            }
        });
        Edges.edge(12, "Returns a value of a triple.", "every number of eight points", () -> {
            for (int i = 0; i < 8; i++) {
                TripleSigns x = Making.points(8);
                for (int j = i + 1; j < 8; j++) {
                    for (int k = j + 1; k < 8; k++) {
                        int t = Making.number(8, i, j, k);
                        Check.due("first of " + t, x.triple(t, 0), i);
                        Check.due("second of " + t, x.triple(t, 1), j);
                        Check.due("third of " + t, x.triple(t, 2), k);
                    }
                }
            }
        });
        Edges.edge(12, "Throws `IndexOutOfBoundsException` if there is no such triple", "just outside and far", () -> {
            for (int what = 0; what <= 6; what++) {
                int asked = what;
                noSuchNumber(TRIPLES, "triple(t, " + what + ")", (x, wrong) -> x.triple(wrong, asked));
            }
        });
        Edges.edge(12, "Throws `IllegalArgumentException` if what is out of range", "just outside and far", () ->
                Edges.refusedEach(new int[] {-1, 7, Edges.NONE, Edges.MAX, Edges.MIN}, Edges.IAE, "triple(0, what)",
                        (x, wrong) -> x.triple(0, wrong)));
        Edges.edge(12, FIRST, "no such triple comes before what is out of range", () -> {
            noSuchNumber(TRIPLES, "triple(t, 7)", (x, wrong) -> x.triple(wrong, 7));
            noSuchNumber(TRIPLES, "triple(t, -1)", (x, wrong) -> x.triple(wrong, -1));
        });
    }

    private static void reasons() {
        String sentence = "The reasons of a triple with a sign are a set of given triples: the triple alone, if it "
                + "is given; otherwise the union of the reasons of the other five triples of its relation.";
        Edges.edge(13, sentence, "given ones of eight points, to the last bit", () -> {
            TripleSigns x = Making.parabola(8);
            for (int t = 0; t < 56; t++) {
                Check.due("reasons(" + t + ")", x.reasons(t), 1L << t);
            }
        });
        Edges.edge(13, sentence, "a derived one is not among its own reasons", () ->
                Check.due("reasons(2)", Making.chain().reasons(2), 1 + 2 + 8 + 16 + 32));
        Edges.edge(13, sentence, "a derived one that another one was derived from stands for its own reasons", () ->
                Check.due("reasons(8)", Making.chain().reasons(8), 1 + 2 + 8 + 16 + 32 + 64 + 128));
        Edges.edge(13, sentence, "a given 0 is among them, and mirror() and turn() change none", () -> {
            TripleSigns x = Making.chain();
            x.mirror();
            x.turn(1);
            Check.due("reasons(2)", x.reasons(2), 59);
            Check.due("reasons(1)", x.reasons(1), 2);
        });
        Edges.edge(13, sentence, "triples beyond the 32nd bit", () -> {
            TripleSigns x = Making.signs(8, "plus deh;plus fgh;zero dfh;plus egh;plus dgh;");
            x.derive();
            long due = 1L << Making.number(8, 3, 4, 7) | 1L << Making.number(8, 5, 6, 7)
                    | 1L << Making.number(8, 3, 5, 7) | 1L << Making.number(8, 4, 6, 7)
                    | 1L << Making.number(8, 3, 6, 7);
            Check.due("reasons(53)", x.reasons(53), due);
        });
        Edges.edge(13, "Returns the reasons as a bit mask of triples; 0 if the triple is unknown.",
                "unknown ones", () -> {
            Check.due("a new object's", new TripleSigns().reasons(9), 0);
            TripleSigns x = Making.chain();
            Check.due("one that was never derived", x.reasons(9), 0);
            x.forget();
            Check.due("one that is forgotten", x.reasons(8), 0);
            x.drop(0, 1, 2);
            Check.due("one that was dropped", x.reasons(0), 0);
        });
        Edges.edge(13, "`triple`: number of a triple", "the first and the last one", () -> {
            Check.due("the first", Making.parabola(3).reasons(0), 1);
            Check.due("the last of eight", Making.parabola(8).reasons(55), 1L << 55);
        });
        Edges.edge(13, "Throws `IndexOutOfBoundsException` if there is no such triple", "just outside and far", () ->
                noSuchNumber(TRIPLES, "reasons", TripleSigns::reasons));
        Edges.edge(13, "Returns the reasons of a triple.", "nothing changes by it", () ->
                Edges.changesNothing("reasons(2)", x -> x.reasons(2)));
    }

    private static void dueCounts(String told, TripleSigns x, int... due) {
        for (int what = 0; what <= 9; what++) {
            Check.due(told + ": count(" + what + ")", x.count(what), due[what]);
        }
    }

    private static void count() {
        String what = "`what`: 0 n, 1 triples, 2 given triples, 3 derived ones, 4 unknown ones, 5 relations, 6 "
                + "relations without unknown triples, 7 those of them that are violated, 8 the relation of the "
                + "contradiction (NONE without one), 9 1 in the uniform mode or 0";
        Edges.edge(14, what, "three points, empty and full", () -> {
            dueCounts("empty", Making.points(3), 3, 1, 0, 0, 1, 0, 0, 0, Edges.NONE, 0);
            dueCounts("full", Making.parabola(3), 3, 1, 1, 0, 0, 0, 0, 0, Edges.NONE, 0);
        });
        Edges.edge(14, what, "eight points, empty and full", () -> {
            dueCounts("empty", Making.points(8), 8, 56, 0, 0, 56, 280, 0, 0, Edges.NONE, 0);
            dueCounts("full", Making.parabola(8), 8, 56, 56, 0, 0, 280, 280, 0, Edges.NONE, 0);
            dueCounts("flat", Making.flat(8), 8, 56, 56, 0, 0, 280, 280, 0, Edges.NONE, 0);
        });
        Edges.edge(14, what, "derived ones and a contradiction", () -> {
            dueCounts("chain", Making.chain(), 5, 10, 7, 2, 1, 5, 2, 0, Edges.NONE, 0);
            dueCounts("contradiction", Making.contradicted(), 5, 10, 8, 1, 1, 5, 2, 1, 1, 0);
            dueCounts("uniform", Making.busy(5), 5, 10, 8, 1, 1, 5, 2, 1, 1, 1);
        });
        Edges.edge(14, what, "a contradiction with relation 0 is not none", () -> {
            TripleSigns x = Making.signs("plus abc;plus ade;zero abd;plus ace;zero acd;");
            x.derive();
            dueCounts("contradiction", x, 5, 10, 5, 0, 5, 5, 0, 0, 0, 0);
        });
        Edges.edge(14, what, "violated relations before any deriving are no contradiction", () -> {
            TripleSigns x = Making.signs("plus abc;plus ade;zero abd;plus ace;zero acd;plus abe;");
            dueCounts("violated", x, 5, 10, 6, 0, 4, 5, 1, 1, Edges.NONE, 0);
        });
        Edges.edge(14, what, "as many violated relations of eight points as relation() tells", () -> {
            TripleSigns x = Making.parabola(8);
            x.give(0, 2, 4, -1);
            int violated = 0;
            for (int r = 0; r < 280; r++) {
                violated += x.relation(r, 6) == -1 ? 1 : 0;
            }
            Check.due("some are violated", violated > 0, true);
            Check.due("count(6)", x.count(6), 280);
            Check.due("count(7)", x.count(7), violated);
        });
    }

    private static void countsOf() {
        Edges.edge(14, "Throws `IllegalArgumentException` if what is out of range", "just outside and far", () ->
                Edges.refusedEach(new int[] {-1, 10, 11, Edges.NONE, Edges.MAX, Edges.MIN}, Edges.IAE, "count",
                        TripleSigns::count));
        Edges.edge(14, "Returns a count.", "nothing changes by it", () -> {
            for (int what = 0; what <= 9; what++) {
                int asked = what;
                Edges.changesNothing("count(" + what + ")", x -> x.count(asked));
            }
        });
        Edges.edge(14, "Returns that count.", "the counts of triples add up", () -> {
            for (int n : POINTS) {
                TripleSigns x = Making.busy(n);
                Check.due("all of " + n, x.count(2) + x.count(3) + x.count(4), x.count(1));
            }
        });
    }

    private static void relation() {
        String sentence = "For each point a and each four other points b < c < d < e there is a relation; the "
                + "relations are numbered from 0 in the order of a, and then of (b, c, d, e) lexicographically.";
        Edges.edge(15, sentence, "how many there are", () -> {
            int[] due = {0, 0, 5, 30, 105, 280};
            for (int n = 3; n <= 8; n++) {
                Check.due("relations of " + n, Making.points(n).count(5), due[n - 3]);
            }
        });
        Edges.edge(15, sentence, "the five of five points", () -> {
            int[][] due = {{0, 1, 2, 3, 4}, {1, 0, 2, 3, 4}, {2, 0, 1, 3, 4}, {3, 0, 1, 2, 4}, {4, 0, 1, 2, 3}};
            for (int r = 0; r < 5; r++) {
                dueRelation(new TripleSigns(), r, due[r]);
            }
        });
        Edges.edge(15, sentence, "the first and the last one of a point of eight", () -> {
            dueRelation(Making.points(8), 0, 0, 1, 2, 3, 4);
            dueRelation(Making.points(8), 1, 0, 1, 2, 3, 5);
            dueRelation(Making.points(8), 34, 0, 4, 5, 6, 7);
            dueRelation(Making.points(8), 35, 1, 0, 2, 3, 4);
            dueRelation(Making.points(8), 139, 3, 4, 5, 6, 7);
            dueRelation(Making.points(8), 140, 4, 0, 1, 2, 3);
            dueRelation(Making.points(8), 279, 7, 3, 4, 5, 6);
        });
        Edges.edge(15, "Returns a value of a relation.", "nothing changes by it", () -> {
            for (int what = 0; what <= 6; what++) {
                int asked = what;
                Edges.changesNothing("relation(1, " + what + ")", x -> x.relation(1, asked));
            }
        });
        String what = "`what`: 0 to 4 a to e, 5 number of unknown triples, 6 1 if it has none and is fulfilled, -1 "
                + "if it has none and is violated, otherwise 0";
        Edges.edge(15, what, "six unknown, down to none", () -> {
            TripleSigns x = new TripleSigns();
            String[] commands = {"plus abc;", "plus ade;", "plus abd;", "plus ace;", "plus abe;"};
            for (int given = 0; given < 5; given++) {
                Check.due("unknown", x.relation(0, 5), 6 - given);
                Check.due("verdict", x.relation(0, 6), 0);
                Making.run(x, commands[given]);
            }
            Check.due("one unknown", x.relation(0, 5), 1);
            Check.due("verdict", x.relation(0, 6), 0);
            Making.run(x, "plus acd;");
            Check.due("none unknown", x.relation(0, 5), 0);
            Check.due("fulfilled", x.relation(0, 6), 1);
            Making.run(x, "minus ace;");
            Check.due("violated", x.relation(0, 6), -1);
        });
        Edges.edge(15, what, "derived triples are not unknown", () -> {
            TripleSigns x = Making.chain();
            Check.due("unknown", x.relation(0, 5), 0);
            Check.due("verdict", x.relation(0, 6), 1);
            Check.due("unknown of 1", x.relation(1, 5), 0);
            Check.due("unknown of 2", x.relation(2, 5), 1);
        });
    }

    private static void dueRelation(TripleSigns x, int relation, int... due) {
        for (int what = 0; what <= 4; what++) {
            Check.due("relation(" + relation + ", " + what + ")", x.relation(relation, what), due[what]);
        }
    }

    private static void products() {
        String sentence = "Its triples are the six triples of the following three products: s(a, b, c) * s(a, d, e), "
                + "-s(a, b, d) * s(a, c, e), s(a, b, e) * s(a, c, d), where s is the sign of an ordered triple.";
        Edges.edge(15, sentence, "each relation of five points by all signs", () -> {
            for (int relation = 0; relation < 5; relation++) {
                for (int code = 0; code < 243; code++) {
                    for (int last = -1; last <= 1; last++) {
                        int[] signs = Making.signsBy(code, 5);
                        signs[5] = last;
                        TripleSigns x = Making.factorsGiven(relation, signs, -1);
                        Check.due("relation(" + relation + ", 6)", x.relation(relation, 6),
                                Making.fulfilled(signs) ? 1 : -1);
                    }
                }
            }
        });
        Edges.edge(15, sentence, "each triple of the first relation, and none besides", () -> {
            String[] names = {"abc", "abd", "abe", "acd", "ace", "ade", "bcd", "bce", "bde", "cde"};
            for (int t = 0; t < 10; t++) {
                TripleSigns x = Making.signs("zero " + names[t] + ";");
                Check.due("with " + names[t], x.relation(0, 5), t < 6 ? 5 : 6);
            }
        });
        Edges.edge(15, sentence, "each triple of the last relation of eight points, and none besides", () -> {
            for (int i = 0; i < 8; i++) {
                for (int j = i + 1; j < 8; j++) {
                    for (int k = j + 1; k < 8; k++) {
                        TripleSigns x = Making.points(8);
                        x.give(i, j, k, 0);
                        boolean one = i >= 3 && j <= 6 && k == 7;
                        Check.due("with " + i + j + k, x.relation(279, 5), one ? 5 : 6);
                    }
                }
            }
        });
    }

    private static void verdicts() {
        String sentence = "A relation whose triples all have signs is fulfilled if the three products are all 0, or "
                + "if at least one of them is 1 and at least one is -1; otherwise it is violated.";
        Edges.edge(15, sentence, "all 0", () -> dueVerdict(0, 0, 0, 1));
        Edges.edge(15, sentence, "1 and -1 with each third one", () -> {
            for (int third = -1; third <= 1; third++) {
                dueVerdict(1, -1, third, 1);
                dueVerdict(-1, third, 1, 1);
                dueVerdict(third, 1, -1, 1);
            }
        });
        Edges.edge(15, sentence, "one alone that is not 0", () -> {
            for (int sign = -1; sign <= 1; sign += 2) {
                dueVerdict(sign, 0, 0, -1);
                dueVerdict(0, sign, 0, -1);
                dueVerdict(0, 0, sign, -1);
            }
        });
        Edges.edge(15, sentence, "two of one sign and a 0", () -> {
            for (int sign = -1; sign <= 1; sign += 2) {
                dueVerdict(sign, sign, 0, -1);
                dueVerdict(sign, 0, sign, -1);
                dueVerdict(0, sign, sign, -1);
            }
        });
        Edges.edge(15, sentence, "three of one sign", () -> {
            dueVerdict(1, 1, 1, -1);
            dueVerdict(-1, -1, -1, -1);
        });
    }

    /** Relation 0 with the three products. */
    private static void dueVerdict(int first, int second, int third, int due) {
        TripleSigns x = Making.signs("plus ade;plus ace;plus acd;");
        x.give(0, 1, 2, first);
        x.give(0, 1, 3, -second);
        x.give(0, 1, 4, third);
        Check.due(first + ", " + second + ", " + third, x.relation(0, 6), due);
        Check.due("violated", x.count(7), due < 0 ? 1 : 0);
    }

    private static void relationRefuses() {
        Edges.edge(15, "`relation`: number of a relation", "the first and the last one", () -> {
            for (int n = 5; n <= 8; n++) {
                TripleSigns x = Making.points(n);
                Check.due("the first of " + n, x.relation(0, 0), 0);
                Check.due("the last of " + n, x.relation(x.count(5) - 1, 0), n - 1);
            }
        });
        Edges.edge(15, "Throws `IndexOutOfBoundsException` if there is no such relation",
                "just outside and far", () -> {
            for (int what = 0; what <= 6; what++) {
                int asked = what;
                noSuchNumber(RELATIONS, "relation(r, " + what + ")", (x, wrong) -> x.relation(wrong, asked));
            }
        });
        Edges.edge(15, "Throws `IndexOutOfBoundsException` if there is no such relation", "four points have none", () ->
                Edges.refused(() -> Making.busy(4), Edges.IOOBE, "relation(0, 0)", x -> x.relation(0, 0)));
        Edges.edge(15, "Throws `IllegalArgumentException` if what is out of range", "just outside and far", () -> {
            for (int wrong : new int[] {-1, 7, Edges.NONE, Edges.MAX, Edges.MIN}) {
                Edges.refused(() -> Making.busy(5), Edges.IAE, "relation(4, " + wrong + ")", x -> x.relation(4, wrong));
                Edges.refused(() -> Making.busy(8), Edges.IAE, "relation(279, " + wrong + ")",
                        x -> x.relation(279, wrong));
            }
        });
        Edges.edge(15, FIRST, "no such relation comes before what is out of range", () -> {
            noSuchNumber(RELATIONS, "relation(r, 7)", (x, wrong) -> x.relation(wrong, 7));
            noSuchNumber(RELATIONS, "relation(r, -1)", (x, wrong) -> x.relation(wrong, -1));
        });
        Edges.edge(15, "Returns that value.", "a value of each kind", () -> {
            TripleSigns x = Making.contradicted();
            int[] due = {1, 0, 2, 3, 4, 0, -1};
            for (int what = 0; what <= 6; what++) {
                Check.due("relation(1, " + what + ")", x.relation(1, what), due[what]);
            }
        });
    }

    private static void behind() {
        String sentence = "The reasons of a relation are the union of the reasons of those of its triples that have "
                + "signs.";
        Edges.edge(16, sentence, "none has a sign", () -> {
            Check.due("behind(0)", new TripleSigns().behind(0), 0);
            Check.due("behind(279)", Making.points(8).behind(279), 0);
        });
        Edges.edge(16, sentence, "some have signs, also 0", () ->
                Check.due("behind(0)", Making.signs("zero abc;minus acd;plus cde;").behind(0), 1 + 8));
        Edges.edge(16, sentence, "a derived one stands for its reasons", () -> {
            TripleSigns x = Making.chain();
            Check.due("behind(0)", x.behind(0), 59);
            Check.due("behind(1)", x.behind(1), 251);
            // 012 and 234 (unknown), 023 and 124, 024 and 123: not 013 and 034.
            Check.due("behind(2)", x.behind(2), 1 + 8 + 16 + 64 + 128);
        });
        Edges.edge(16, sentence, "given ones are behind a contradiction", () ->
                Check.due("behind(1)", Making.contradicted().behind(1), 59 + 64 + 128 + 256));
        Edges.edge(16, "Returns the reasons as a bit mask of triples.", "triples beyond the 32nd bit", () -> {
            TripleSigns x = Making.parabola(8);
            long due = 1L << Making.number(8, 3, 4, 7) | 1L << Making.number(8, 5, 6, 7)
                    | 1L << Making.number(8, 3, 5, 7) | 1L << Making.number(8, 4, 6, 7)
                    | 1L << Making.number(8, 3, 6, 7) | 1L << Making.number(8, 4, 5, 7);
            Check.due("behind(279)", x.behind(279), due);
        });
        Edges.edge(16, "`relation`: number of a relation", "the first and the last one", () -> {
            Check.due("the first", Making.signs("plus abc;").behind(0), 1);
            Check.due("the last", Making.signs("plus cde;").behind(4), 1 << 9);
        });
        Edges.edge(16, "Throws `IndexOutOfBoundsException` if there is no such relation", "just outside and far", () ->
                noSuchNumber(RELATIONS, "behind", TripleSigns::behind));
        Edges.edge(16, "Returns the reasons of a relation.", "nothing changes by it", () ->
                Edges.changesNothing("behind(1)", x -> x.behind(1)));
    }
}
