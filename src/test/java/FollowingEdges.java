import java.util.HashSet;
import java.util.List;
import java.util.Set;

/** Edges of promises 17 to 20: completions, cocircuits, extreme points and lines. */
final class FollowingEdges {
    private static final String FIRST =
            "If several exceptions of a method apply, the one that is listed first is thrown.";

    private FollowingEdges() {
    }

    static void all() {
        completions();
        completionsCount();
        completionsRefuse();
        cocircuit();
        cocircuitBounds();
        cocircuitRefuses();
        extreme();
        extremeOnes();
        extremeRefuses();
        lines();
        linesRefuse();
    }

    // ---- promise 17

    /** Six points, all triples with 0 given as 1: ten triples are unknown. */
    private static TripleSigns ten() {
        return Making.signs(6, "plus abc;plus abd;plus abe;plus abf;plus acd;plus ace;plus acf;plus ade;plus adf;"
                + "plus aef;");
    }

    private static void completions() {
        String sentence = "Counts the ways to give each unknown triple a sign, 1 or -1, such that no relation is "
                + "violated.";
        Edges.edge(17, sentence, "without relations every way counts", () -> {
            Check.due("three points", Making.points(3).completions(), 2);
            Check.due("four points", Making.points(4).completions(), 16);
            Check.due("four points with three signs", Making.signs(4, "plus abc;zero abd;minus acd;").completions(), 2);
        });
        Edges.edge(17, sentence, "ten unknown of five points", () ->
                Check.due("completions()", new TripleSigns().completions(), 384));
        Edges.edge(17, sentence,
                "ten unknown of six points", () -> Check.due("completions()", ten().completions(), 62));
        Edges.edge(17, sentence, "0 is no way", () ->
                Check.due("completions()", Making.signs("zero abc;plus ade;zero abd;plus ace;plus acd;zero bcd;"
                        + "zero bce;zero bde;zero cde;").completions(), 0));
        Edges.edge(17, sentence, "a violated relation leaves none", () -> {
            TripleSigns x = Making.signs("plus abc;plus ade;zero abd;plus ace;zero abe;plus acd;");
            Check.due("some are unknown", x.count(4), 4);
            Check.due("completions()", x.completions(), 0);
        });
        Edges.edge(17, sentence, "each triple of each relation of five points by all signs of the others", () -> {
            for (int relation = 0; relation < 5; relation++) {
                for (int unknown = 0; unknown < 6; unknown++) {
                    for (int code = 0; code < 243; code++) {
                        dueWays(relation, unknown, Making.signsBy(code, unknown));
                    }
                }
            }
        });
        Edges.edge(17, sentence, "each triple of each relation of five to eight points", () -> {
            for (int n = 5; n <= 8; n++) {
                List<int[]> relations = Making.relations(n);
                for (int r = 0; r < relations.size(); r++) {
                    for (int unknown = 0; unknown < 6; unknown++) {
                        Check.due("completions() for factor " + unknown + " of relation " + r + " of " + n,
                                Making.lone(n, relations.get(r), unknown).completions(), 1);
                    }
                }
            }
        });
        Edges.edge(17, sentence, "1 alone, -1 alone, and both", () -> {
            String rest = "plus ade;plus ace;plus acd;zero bcd;zero bce;zero bde;zero cde;";
            // The products of relation 0 are 012, 013 turned, and 014; all others are fulfilled by 0.
            Check.due("-1 alone", Making.signs(rest + "plus abc;minus abd;").completions(), 1);
            Check.due("1 alone", Making.signs(rest + "minus abc;plus abd;").completions(), 1);
            Check.due("both", Making.signs(rest + "plus abc;plus abd;").completions(), 2);
        });
        Edges.edge(17, sentence, "the uniform mode makes no difference", () -> {
            TripleSigns x = new TripleSigns();
            x.setUniform(true);
            Check.due("completions()", x.completions(), 384);
        });
    }

    /** With 0 for all triples without its first point no other relation can be violated. */
    private static void dueWays(int relation, int unknown, int[] signs) {
        TripleSigns x = Making.factorsGiven(relation, signs, unknown);
        for (int i = 0; i < 5; i++) {
            for (int j = i + 1; j < 5; j++) {
                for (int k = j + 1; k < 5; k++) {
                    if (i != relation && j != relation && k != relation) {
                        x.give(i, j, k, 0);
                    }
                }
            }
        }
        int ways = 0;
        for (int sign = -1; sign <= 1; sign += 2) {
            signs[unknown] = sign;
            ways += Making.fulfilled(signs) ? 1 : 0;
        }
        Check.due("completions() for factor " + unknown + " of relation " + relation, x.completions(), ways);
    }

    private static void completionsCount() {
        Edges.edge(17, "(Derived signs stay.)", "a derived 0 is no unknown triple", () -> {
            TripleSigns x = Making.signs("zero abc;plus ade;zero abd;plus ace;plus acd;zero bcd;zero bce;zero bde;"
                    + "zero cde;");
            Check.due("derive()", x.derive(), 1);
            Check.due("completions()", x.completions(), 1);
            x.forget();
            Check.due("completions() without it", x.completions(), 0);
        });
        Edges.edge(17, "(Derived signs stay.)", "with an unknown triple besides", () ->
                Check.due("completions()", Making.chain().completions(), ways(Making::chain)));
        Edges.edge(17, "Nothing changes.", "ten unknown ones, none, and a violated relation", () -> {
            Edges.changesNothing(FollowingEdges::ten, "completions()", TripleSigns::completions);
            Edges.changesNothing(() -> Making.parabola(8), "completions()", TripleSigns::completions);
            Edges.changesNothing("completions()", TripleSigns::completions);
            Edges.changesNothing(() -> Making.busy(3), "completions()", TripleSigns::completions);
        });
        Edges.edge(17, "Returns the number of ways; 1 if no triple is unknown and no relation is violated.",
                "none is unknown", () -> {
            Check.due("three points", Making.parabola(3).completions(), 1);
            Check.due("eight points", Making.parabola(8).completions(), 1);
            Check.due("eight points on a line", Making.flat(8).completions(), 1);
        });
        Edges.edge(17, "1 if no triple is unknown and no relation is violated.", "one is violated", () -> {
            TripleSigns x = Making.signs("plus abc;plus ade;zero abd;plus ace;zero abe;plus acd;");
            Making.run(x, "zero bcd;zero bce;zero bde;zero cde;");
            Check.due("unknown", x.count(4), 0);
            Check.due("violated", x.count(7), 1);
            Check.due("completions()", x.completions(), 0);
        });
        Edges.edge(17, "Returns the number of ways;", "one unknown of eight points", () -> {
            TripleSigns x = Making.parabola(8);
            x.drop(0, 2, 4);
            Check.due("one that follows from the others", x.completions(), 1);
            x.undo();
            x.drop(0, 1, 2);
            Check.due("the first triple, which can be either", x.completions(), 2);
            x.undo();
            x.drop(5, 6, 7);
            Check.due("the last triple, which can be either", x.completions(), 2);
        });
    }

    /** Counts the ways by trying each of them. */
    private static int ways(Edges.Maker maker) {
        TripleSigns asked = maker.make();
        int[] open = new int[asked.count(4)];
        int listed = 0;
        for (int t = 0; t < asked.count(1); t++) {
            if (asked.triple(t, 4) == 0) {
                open[listed++] = t;
            }
        }
        int ways = 0;
        for (int choice = 0; choice < 1 << listed; choice++) {
            TripleSigns x = maker.make();
            for (int o = 0; o < listed; o++) {
                int t = open[o];
                x.give(x.triple(t, 0), x.triple(t, 1), x.triple(t, 2), (choice >> o & 1) == 1 ? 1 : -1);
            }
            ways += x.count(7) == 0 ? 1 : 0;
        }
        return ways;
    }

    private static void completionsRefuse() {
        String sentence = "Throws `IllegalStateException` if more than 10 triples are unknown";
        Edges.edge(17, sentence, "eleven are refused, ten are not", () -> {
            TripleSigns x = ten();
            Check.due("ten", x.completions(), 62);
            Edges.refused(() -> {
                TripleSigns more = ten();
                more.drop(0, 1, 2);
                return more;
            }, Edges.ISE, "completions() of eleven", TripleSigns::completions);
        });
        Edges.edge(17, sentence, "20, 35 and 56", () -> {
            for (int n = 6; n <= 8; n++) {
                int points = n;
                Edges.refused(() -> Making.points(points), Edges.ISE, "completions() of " + n,
                        TripleSigns::completions);
            }
        });
        Edges.edge(17, sentence, "also where a relation is violated", () ->
                Edges.refused(() -> Making.busy(8), Edges.ISE, "completions()", TripleSigns::completions));
        Edges.edge(17, sentence, "derived ones are not unknown", () -> {
            TripleSigns x = nine();
            Check.due("eleven unknown", x.count(4), 11);
            Check.dueThrow("completions() of eleven", Edges.ISE, x::completions);
            Check.due("derive()", x.derive(), 1);
            Check.due("completions() of ten", x.completions(), ways(() -> {
                TripleSigns twin = nine();
                twin.derive();
                return twin;
            }));
        });
    }

    /** Six points with nine signs, from which one follows. */
    private static TripleSigns nine() {
        return Making.signs(6, "plus abc;plus ade;zero abd;plus ace;plus acd;plus bef;plus cef;plus def;plus bcf;");
    }

    // ---- promise 18

    private static void cocircuit() {
        String sentence = "The cocircuit of two different points i, j consists of the signs of (i, j, x) for all "
                + "points x.";
        Edges.edge(18, sentence, "the two points themselves count 0", () -> {
            TripleSigns x = Making.parabola(3);
            Check.due("cocircuit(0, 1)", x.cocircuit(0, 1), 16);
            Check.due("cocircuit(1, 0)", x.cocircuit(1, 0), 32);
            Check.due("cocircuit(0, 2)", x.cocircuit(0, 2), 8);
            Check.due("cocircuit(2, 0)", x.cocircuit(2, 0), 4);
            Check.due("cocircuit(1, 2)", x.cocircuit(1, 2), 1);
            Check.due("cocircuit(2, 1)", x.cocircuit(2, 1), 2);
        });
        String sum = "Returns the sum of (1 if the sign of (i, j, x) is 1, 2 if it is -1, otherwise 0) * 4 to the "
                + "power of x, over all points x.";
        Edges.edge(18, sum, "1, -1 and 0", () -> {
            TripleSigns x = Making.signs("plus abc;minus abd;zero abe;");
            Check.due("cocircuit(0, 1)", x.cocircuit(0, 1), 16 + 2 * 64);
            Check.due("cocircuit(1, 0)", x.cocircuit(1, 0), 2 * 16 + 64);
        });
        Edges.edge(18, sum, "all 0", () -> {
            Check.due("three points", Making.flat(3).cocircuit(2, 1), 0);
            Check.due("eight points", Making.flat(8).cocircuit(0, 7), 0);
        });
        Edges.edge(18, sum, "derived signs count", () ->
                Check.due("cocircuit(0, 1)", Making.chain().cocircuit(0, 1), 16 + 2 * 256));
        Edges.edge(18, "Returns a cocircuit.", "nothing changes by it", () ->
                Edges.changesNothing(Making::full, "cocircuit(0, 1)", x -> x.cocircuit(0, 1)));
    }

    private static void cocircuitBounds() {
        String sum = "* 4 to the power of x, over all points x.";
        Edges.edge(18, sum, "the first and the last point of eight", () -> {
            TripleSigns x = Making.parabola(8);
            Check.due("cocircuit(0, 1)", x.cocircuit(0, 1), 21840);
            Check.due("cocircuit(1, 0)", x.cocircuit(1, 0), 43680);
            Check.due("cocircuit(6, 7)", x.cocircuit(6, 7), 1365);
            Check.due("cocircuit(7, 6)", x.cocircuit(7, 6), 2730);
            Check.due("cocircuit(0, 7)", x.cocircuit(0, 7), 2 * (4 + 16 + 64 + 256 + 1024 + 4096));
        });
        Edges.edge(18, sum, "each point alone", () -> {
            for (int p = 2; p < 8; p++) {
                TripleSigns x = Making.flat(8);
                x.give(0, 1, p, -1);
                Check.due("point " + p, x.cocircuit(0, 1), 2L << 2 * p);
            }
        });
        for (String name : new String[] {"`i`: a point", "`j`: another point"}) {
            Edges.edge(18, name, "the first and the last one of three and of eight", () -> {
                Check.due("of three", Making.parabola(3).cocircuit(0, 2), 8);
                Check.due("of three", Making.parabola(3).cocircuit(2, 0), 4);
                Check.due("of eight", Making.flat(8).cocircuit(0, 7), 0);
                Check.due("of eight", Making.flat(8).cocircuit(7, 0), 0);
            });
        }
    }

    private static void cocircuitRefuses() {
        String points = "Throws `IndexOutOfBoundsException` if there is no such point";
        Edges.edge(18, points, "the first is none", () ->
                Edges.noSuchPoint("cocircuit(i, 0)", (x, wrong) -> x.cocircuit(wrong, 0)));
        Edges.edge(18, points, "the second is none", () ->
                Edges.noSuchPoint("cocircuit(0, j)", (x, wrong) -> x.cocircuit(0, wrong)));
        Edges.edge(18, "Throws `IllegalArgumentException` if i and j are equal", "all signs are known", () -> {
            for (int p = 0; p < 8; p++) {
                int point = p;
                Edges.refused(() -> Making.flat(8), Edges.IAE, "cocircuit(p, p)", x -> x.cocircuit(point, point));
            }
        });
        String state = "Throws `IllegalStateException` if one of its signs is unknown";
        Edges.edge(18, state, "each one of eight points alone", () -> {
            for (int p = 2; p < 8; p++) {
                int point = p;
                Edges.refused(() -> {
                    TripleSigns x = Making.parabola(8);
                    x.drop(0, 1, point);
                    return x;
                }, Edges.ISE, "cocircuit(0, 1) without " + p, x -> x.cocircuit(0, 1));
            }
        });
        Edges.edge(18, state, "another point's sign may be unknown", () -> {
            TripleSigns x = Making.parabola(8);
            x.drop(2, 3, 4);
            Check.due("cocircuit(0, 1)", x.cocircuit(0, 1), 21840);
            Check.dueThrow("cocircuit(2, 4)", Edges.ISE, () -> x.cocircuit(2, 4));
        });
        Edges.edge(18, FIRST, "no such point comes before equal points", () ->
                Edges.noSuchPoint("cocircuit(i, i)", (x, wrong) -> x.cocircuit(wrong, wrong)));
        Edges.edge(18, FIRST, "no such point comes before unknown signs", () ->
                Edges.refused(TripleSigns::new, Edges.IOOBE, "cocircuit(0, 5)", x -> x.cocircuit(0, 5)));
        Edges.edge(18, FIRST, "equal points come before unknown signs", () -> {
            Edges.refused(TripleSigns::new, Edges.IAE, "cocircuit(0, 0)", x -> x.cocircuit(0, 0));
            Edges.refused(() -> Making.busy(8), Edges.IAE, "cocircuit(7, 7)", x -> x.cocircuit(7, 7));
        });
    }

    // ---- promise 19

    private static final String EXTREME = "A point i is extreme if there is a point j, different from it, such that "
            + "the signs of (i, j, x) are known for all other points x, not all of them are 0, and none of them is "
            + "-1 or none of them is 1.";

    private static void extreme() {
        Edges.edge(19, EXTREME, "nothing is known", () -> {
            for (int p = 0; p < 5; p++) {
                Check.due("isExtreme(" + p + ")", new TripleSigns().isExtreme(p), false);
            }
        });
        Edges.edge(19, EXTREME, "three points", () -> {
            for (int p = 0; p < 3; p++) {
                Check.due("unknown", Making.points(3).isExtreme(p), false);
                Check.due("1", Making.signs(3, "plus abc;").isExtreme(p), true);
                Check.due("-1", Making.signs(3, "minus abc;").isExtreme(p), true);
                Check.due("0", Making.signs(3, "zero abc;").isExtreme(p), false);
            }
        });
        Edges.edge(19, EXTREME, "all of them are 0", () -> {
            for (int p = 0; p < 8; p++) {
                Check.due("isExtreme(" + p + ")", Making.flat(8).isExtreme(p), false);
            }
        });
        Edges.edge(19, EXTREME, "0 and one other sign", () -> {
            Check.due("0 and 1", Making.signs("zero abc;zero abd;plus abe;").isExtreme(0), true);
            Check.due("0 and -1", Making.signs("zero abc;minus abd;zero abe;").isExtreme(0), true);
        });
        Edges.edge(19, EXTREME, "1 and -1", () ->
                Check.due("isExtreme(0)", Making.signs("plus abc;minus abd;zero abe;").isExtreme(0), false));
        Edges.edge(19, EXTREME, "one sign of the line is unknown", () -> {
            Check.due("the first", Making.signs("plus abd;plus abe;").isExtreme(0), false);
            Check.due("the last", Making.signs("plus abc;plus abd;").isExtreme(0), false);
            Check.due("none", Making.signs("plus abc;plus abd;plus abe;").isExtreme(0), true);
            Check.due("none, for the other point", Making.signs("plus abc;plus abd;plus abe;").isExtreme(1), true);
            Check.due("a third point", Making.signs("plus abc;plus abd;plus abe;").isExtreme(2), false);
        });
        Edges.edge(19, EXTREME, "derived signs are known", () -> {
            TripleSigns x = Making.signs("plus abc;minus ade;zero abd;plus ace;plus acd;");
            Check.due("before", x.isExtreme(1), false);
            x.derive();
            Check.due("014", x.sign(0, 1, 4), 1);
            Check.due("by the line 01", x.isExtreme(1), true);
            x.forget();
            Check.due("without it", x.isExtreme(1), false);
        });
    }

    private static void extremeOnes() {
        Edges.edge(19, EXTREME, "the last point alone tells it", () -> {
            String rest = "plus abc;minus abd;plus acd;";
            Check.due("all 1", Making.signs(rest + "plus abe;plus ace;plus ade;").isExtreme(0), true);
            Check.due("all 0", Making.signs(rest + "zero abe;zero ace;zero ade;").isExtreme(0), false);
            Check.due("one of them -1", Making.signs(rest + "zero abe;zero ace;minus ade;").isExtreme(0), true);
            Check.due("one of them unknown", Making.signs(rest + "plus abe;plus ace;").isExtreme(0), false);
        });
        Edges.edge(19, EXTREME, "the first point alone tells it", () -> {
            String rest = "plus bce;plus cde;minus bde;";
            Check.due("all 1", Making.signs(rest + "plus abe;plus ace;plus ade;").isExtreme(4), true);
            Check.due("one of them unknown", Making.signs(rest + "plus ace;plus ade;").isExtreme(4), false);
        });
        Edges.edge(19, "Tells whether a point is extreme.", "a square with its middle", () -> {
            TripleSigns x = new TripleSigns();
            int[][] at = {{-1, -1}, {1, -1}, {1, 1}, {-1, 1}, {0, 0}};
            for (int p = 0; p < 5; p++) {
                x.place(p, at[p][0], at[p][1]);
            }
            x.read();
            for (int p = 0; p < 5; p++) {
                Check.due("isExtreme(" + p + ")", x.isExtreme(p), p < 4);
            }
        });
        Edges.edge(19, "Returns true if it is.", "nothing changes by it", () ->
                Edges.changesNothing("isExtreme(0)", x -> x.isExtreme(0) ? 1 : 0));
    }

    private static void extremeRefuses() {
        Edges.edge(19, "`point`: a point", "the first and the last one", () -> {
            for (int n = 3; n <= 8; n++) {
                Check.due("the first of " + n, Making.parabola(n).isExtreme(0), true);
                Check.due("the last of " + n, Making.parabola(n).isExtreme(n - 1), true);
            }
        });
        Edges.edge(19, "Throws `IndexOutOfBoundsException` if there is no such point", "just outside and far", () ->
                Edges.noSuchPoint("isExtreme", (x, wrong) -> x.isExtreme(wrong) ? 1 : 0));
    }

    // ---- promise 20

    private static void lines() {
        String sentence = "The line of two different points i, j consists of i, j and all points x for which the "
                + "sign of (i, j, x) is 0.";
        Edges.edge(20, sentence, "no sign is 0: a line for each two points", () -> {
            for (int n = 3; n <= 8; n++) {
                Check.due("lines() of " + n, Making.parabola(n).lines(), n * (n - 1) / 2);
            }
        });
        Edges.edge(20, sentence, "all signs are 0: one line", () -> {
            for (int n = 3; n <= 8; n++) {
                Check.due("lines() of " + n, Making.flat(n).lines(), 1);
            }
        });
        Edges.edge(20, sentence, "three on a line", () -> {
            TripleSigns first = Making.parabola(8);
            first.give(0, 1, 2, 0);
            Check.due("the first three", first.lines(), 26);
            TripleSigns last = Making.parabola(8);
            last.give(7, 5, 6, 0);
            Check.due("the last three", last.lines(), 26);
        });
        Edges.edge(20, "Returns the number of different lines of two points.", "signs that no points have", () ->
                // 0123 (of 01), 012 (of 02 and 12), 013 (of 03 and 13), 23.
                Check.due("lines()", Making.signs(4, "zero abc;zero abd;plus acd;plus bcd;").lines(), 4));
        Edges.edge(20, "Returns the number of different lines of two points.", "all signs of four points", () -> {
            for (int code = 0; code < 81; code++) {
                TripleSigns x = Making.points(4);
                int rest = code;
                for (int without = 3; without >= 0; without--) {
                    int[] p = {without == 0 ? 1 : 0, without <= 1 ? 2 : 1, without <= 2 ? 3 : 2};
                    x.give(p[0], p[1], p[2], rest % 3 - 1);
                    rest /= 3;
                }
                Set<Set<Integer>> lines = new HashSet<>();
                for (int i = 0; i < 4; i++) {
                    for (int j = i + 1; j < 4; j++) {
                        lines.add(line(x, i, j));
                    }
                }
                Check.due("lines() of code " + code, x.lines(), lines.size());
            }
        });
        Edges.edge(20, "Returns the number of different lines of two points.", "asked twice", () -> {
            TripleSigns x = Making.parabola(8);
            Check.due("lines()", x.lines(), 28);
            Check.due("lines() again", x.lines(), 28);
            x.give(0, 1, 2, 0);
            Check.due("lines() with three on a line", x.lines(), 26);
            x.undo();
            Check.due("lines() as at first", x.lines(), 28);
        });
        Edges.edge(20, "Returns the number of different lines of two points.",
                "seven on a line and one beside it", () -> {
            TripleSigns x = Making.flat(8);
            x.place(7, 0, 50);
            x.read();
            Check.due("lines()", x.lines(), 8);
            x.place(7, 7, 7);
            x.place(0, 0, 50);
            x.read();
            Check.due("lines() beside the others", x.lines(), 8);
        });
        Edges.edge(20, "Returns the number.", "nothing changes by it", () -> {
            Edges.changesNothing(() -> Making.parabola(8), "lines()", TripleSigns::lines);
            Edges.changesNothing(Making::full, "lines()", TripleSigns::lines);
            Edges.changesNothing(() -> Making.flat(3), "lines()", TripleSigns::lines);
        });
    }

    private static Set<Integer> line(TripleSigns x, int i, int j) {
        Set<Integer> line = new HashSet<>();
        for (int p = 0; p < 4; p++) {
            if (x.sign(i, j, p) == 0) {
                line.add(p);
            }
        }
        return line;
    }

    private static void linesRefuse() {
        String sentence = "Throws `IllegalStateException` if a triple is unknown";
        Edges.edge(20, sentence, "all of them", () -> {
            for (int n = 3; n <= 8; n++) {
                int points = n;
                Edges.refused(() -> Making.points(points), Edges.ISE, "lines() of " + n, TripleSigns::lines);
            }
        });
        Edges.edge(20, sentence, "the first or the last one of eight points", () -> {
            Edges.refused(() -> {
                TripleSigns x = Making.parabola(8);
                x.drop(0, 1, 2);
                return x;
            }, Edges.ISE, "lines() without 012", TripleSigns::lines);
            Edges.refused(() -> {
                TripleSigns x = Making.parabola(8);
                x.drop(5, 6, 7);
                return x;
            }, Edges.ISE, "lines() without 567", TripleSigns::lines);
        });
        Edges.edge(20, sentence, "a derived one is not unknown", () -> {
            TripleSigns x = Making.parabola(8);
            x.drop(0, 2, 4);
            Check.due("derive()", x.derive(), 1);
            Check.due("lines()", x.lines(), 28);
            x.forget();
            Check.dueThrow("lines() when it is forgotten", Edges.ISE, x::lines);
        });
    }
}
