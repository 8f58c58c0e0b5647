/** Edges of promises 8 to 10: signs that are mirrored, turned and exchanged. */
final class MovingEdges {
    private static final String BUT = "Whenever a given sign changes (but by mirror() and turn())";

    private MovingEdges() {
    }

    static void all() {
        mirror();
        turn();
        turnRefuses();
        exchange();
        exchangeMoves();
        exchangeForgets();
        exchangeRefuses();
    }

    private static void dueMoved(String told, TripleSigns x, TripleSigns before, int point) {
        for (int t = 0; t < before.count(1); t++) {
            boolean moved = point < 0;
            for (int p = 0; p < 3; p++) {
                moved |= before.triple(t, p) == point;
            }
            int sign = before.triple(t, 3);
            Check.due(told + ": sign of " + t, x.triple(t, 3), moved && sign != Edges.NONE ? -sign : sign);
            for (int what = 4; what <= 6; what++) {
                Check.due(told + ": " + what + " of " + t, x.triple(t, what), before.triple(t, what));
            }
            Check.due(told + ": reasons of " + t, x.reasons(t), before.reasons(t));
        }
        Check.due(told + ": contradiction", x.count(8), before.count(8));
    }

    private static void mirror() {
        Edges.edge(8, "Multiplies all signs by -1.", "1, -1, 0 and unknown", () -> {
            TripleSigns x = Making.signs("plus abc;minus abd;zero abe;");
            x.mirror();
            Check.due("012", x.triple(0, 3), -1);
            Check.due("013", x.triple(1, 3), 1);
            Check.due("014", x.triple(2, 3), 0);
            Check.due("023", x.triple(3, 3), Edges.NONE);
            Check.due("023: kind", x.triple(3, 4), 0);
        });
        Edges.edge(8, "(Given triples stay given, derived ones derived; a contradiction stays.)",
                "with their relations, steps and reasons", () -> {
            TripleSigns x = Making.chain();
            x.mirror();
            dueMoved("derived ones", x, Making.chain(), -1);
            TripleSigns against = Making.contradicted();
            against.mirror();
            dueMoved("a contradiction", against, Making.contradicted(), -1);
            Check.due("the contradiction", against.count(8), 1);
        });
        Edges.edge(8, BUT, "derived ones stay", () -> {
            TripleSigns x = Making.chain();
            x.mirror();
            Check.due("derived", x.count(3), 2);
            x.mirror();
            dueMoved("twice", x, Making.chain(), 99);
        });
        Edges.edge(8, "Returns how many triples have a sign.", "none, some and all", () -> {
            Check.due("none", new TripleSigns().mirror(), 0);
            Check.due("signs 0", Making.signs("zero abc;zero cde;").mirror(), 2);
            Check.due("derived ones, too", Making.chain().mirror(), 9);
            Check.due("all of three points", Making.parabola(3).mirror(), 1);
            Check.due("all of eight points", Making.parabola(8).mirror(), 56);
        });
        Edges.edge(8, "Undoable.", "the signs come back", () -> Edges.undoable("mirror()", TripleSigns::mirror));
    }

    private static void turn() {
        Edges.edge(9, "Multiplies the signs of all triples with a point by -1, as mirror() does.",
                "each of eight points", () -> {
            for (int point = 0; point < 8; point++) {
                TripleSigns x = Making.parabola(8);
                x.turn(point);
                dueMoved("turn(" + point + ")", x, Making.parabola(8), point);
            }
        });
        Edges.edge(9, "as mirror() does", "derived ones and a contradiction stay", () -> {
            for (int point = 0; point < 5; point++) {
                TripleSigns x = Making.chain();
                x.turn(point);
                dueMoved("turn(" + point + ")", x, Making.chain(), point);
                TripleSigns against = Making.contradicted();
                against.turn(point);
                dueMoved("turn(" + point + ")", against, Making.contradicted(), point);
            }
        });
        Edges.edge(9, BUT, "derived ones stay", () -> {
            TripleSigns x = Making.chain();
            x.turn(0);
            Check.due("derived", x.count(3), 2);
        });
        Edges.edge(9, "Returns how many of these triples have a sign.", "none, some and all", () -> {
            Check.due("none", new TripleSigns().turn(0), 0);
            TripleSigns x = Making.signs("plus abc;zero abd;minus cde;");
            Check.due("signs 0, too", x.turn(1), 2);
            Check.due("of the last point", x.turn(4), 1);
            Check.due("derived ones, too", Making.chain().turn(4), 5);
            Check.due("all of three points", Making.parabola(3).turn(2), 1);
            Check.due("all of eight points", Making.parabola(8).turn(7), 21);
        });
        Edges.edge(9, "Undoable.", "the signs come back", () -> {
            for (int point = 0; point < 3; point++) {
                int turned = point;
                Edges.undoable("turn(" + point + ")", x -> x.turn(turned));
            }
        });
    }

    private static void turnRefuses() {
        Edges.edge(9, "`point`: a point", "the first and the last one", () -> {
            for (int n = 3; n <= 8; n++) {
                TripleSigns x = Making.parabola(n);
                Check.due("the first of " + n, x.turn(0), (n - 1) * (n - 2) / 2);
                Check.due("the last of " + n, x.turn(n - 1), (n - 1) * (n - 2) / 2);
            }
        });
        Edges.edge(9, "Throws `IndexOutOfBoundsException` if there is no such point", "just outside and far", () ->
                Edges.noSuchPoint("turn", TripleSigns::turn));
    }

    private static void exchange() {
        Edges.edge(10, "coordinates are exchanged, too.", "both have some", () -> {
            TripleSigns x = new TripleSigns();
            x.place(0, 1, 2);
            x.place(4, -50, 50);
            x.exchange(4, 0);
            Check.due("x of 0", x.coordinate(0, 0), -50);
            Check.due("y of 0", x.coordinate(0, 1), 50);
            Check.due("x of 4", x.coordinate(4, 0), 1);
            Check.due("y of 4", x.coordinate(4, 1), 2);
        });
        Edges.edge(10, "coordinates are exchanged, too.", "one has none, and both have none", () -> {
            TripleSigns x = new TripleSigns();
            x.place(1, 0, 0);
            x.exchange(1, 2);
            Check.due("x of 1", x.coordinate(1, 0), Edges.NONE);
            Check.due("y of 1", x.coordinate(1, 1), Edges.NONE);
            Check.due("x of 2", x.coordinate(2, 0), 0);
            Check.due("y of 2", x.coordinate(2, 1), 0);
            x.exchange(3, 4);
            Check.due("x of 3", x.coordinate(3, 0), Edges.NONE);
            Check.due("x of 2 stays", x.coordinate(2, 0), 0);
        });
        Edges.edge(10, "Returns how many triples are given.", "none, some and all", () -> {
            Check.due("none", new TripleSigns().exchange(0, 1), 0);
            Check.due("one", Making.signs("zero cde;").exchange(0, 1), 1);
            Check.due("derived ones do not count", Making.chain().exchange(0, 1), 7);
            Check.due("all of three points", Making.parabola(3).exchange(0, 2), 1);
            Check.due("all of eight points", Making.parabola(8).exchange(7, 0), 56);
        });
        Edges.edge(10, "Undoable.", "signs, derived ones and coordinates come back", () -> {
            Edges.undoable("exchange(0, 1)", x -> x.exchange(0, 1));
            Edges.undoable("exchange(2, 0)", x -> x.exchange(2, 0));
        });
    }

    /** Signs of eight points: each triple by its number is -1, 0, 1 or unknown. */
    private static TripleSigns mixed() {
        TripleSigns x = Making.points(8);
        int t = 0;
        for (int i = 0; i < 8; i++) {
            for (int j = i + 1; j < 8; j++) {
                for (int k = j + 1; k < 8; k++) {
                    int choice = t * t % 11 % 4;
                    if (choice < 3) {
                        x.give(i, j, k, choice - 1);
                    }
                    t++;
                }
            }
        }
        return x;
    }

    private static int moved(int point, int i, int j) {
        return point == i ? j : point == j ? i : point;
    }

    private static void exchangeMoves() {
        String sentence = "Exchanges two points: the sign of an ordered triple becomes what it was for the triple "
                + "with i in place of j and j in place of i;";
        Edges.edge(10, sentence, "every two of eight points", () -> {
            for (int i = 0; i < 8; i++) {
                for (int j = 0; j < 8; j++) {
                    if (i != j) {
                        exchangeMoves(i, j);
                    }
                }
            }
        });
        Edges.edge(10, sentence, "a triple with both of them", () -> {
            TripleSigns x = Making.signs("plus abc;");
            x.exchange(0, 1);
            Check.due("sign(0, 1, 2)", x.sign(0, 1, 2), -1);
            x.exchange(2, 0);
            Check.due("sign(0, 1, 2)", x.sign(0, 1, 2), 1);
        });
        Edges.edge(10, sentence, "a triple with neither of them", () -> {
            TripleSigns x = Making.signs("plus abc;");
            x.exchange(3, 4);
            Check.due("sign(0, 1, 2)", x.sign(0, 1, 2), 1);
        });
        Edges.edge(10, sentence, "a triple with one of them", () -> {
            TripleSigns x = Making.signs("plus abc;");
            x.exchange(0, 4);
            Check.due("sign(4, 1, 2)", x.sign(4, 1, 2), 1);
            Check.due("sign(1, 2, 4)", x.sign(1, 2, 4), 1);
            Check.due("sign(0, 1, 2)", x.sign(0, 1, 2), Edges.NONE);
            Check.due("given", x.count(2), 1);
        });
    }

    private static void exchangeMoves(int i, int j) {
        TripleSigns x = mixed();
        TripleSigns before = mixed();
        x.exchange(i, j);
        for (int a = 0; a < 8; a++) {
            for (int b = a + 1; b < 8; b++) {
                for (int c = b + 1; c < 8; c++) {
                    Check.due("exchange(" + i + ", " + j + "): sign(" + a + ", " + b + ", " + c + ")", x.sign(a, b, c),
                            before.sign(moved(a, i, j), moved(b, i, j), moved(c, i, j)));
                }
            }
        }
        Check.due("given", x.count(2), before.count(2));
    }

    private static void exchangeForgets() {
        String sentence = "Given signs stay given; all derived triples become unknown before, and a contradiction is "
                + "forgotten.";
        Edges.edge(10, sentence, "derived ones do not become given ones", () -> {
            TripleSigns x = Making.chain();
            x.exchange(3, 4);
            Check.due("given", x.count(2), 7);
            Check.due("derived", x.count(3), 0);
            Check.due("013 (014 before)", x.triple(1, 4), 0);
            Check.due("134 (143 before)", x.triple(8, 4), 0);
            Check.due("014 (013 before)", x.triple(2, 4), 1);
            Check.due("014: reasons", x.reasons(2), 4);
        });
        Edges.edge(10, sentence, "points that no derived triple has", () -> {
            // 014 is derived; the points 5 and 6 have no signs at all.
            TripleSigns x = Making.signs(7, "plus abc;plus ade;zero abd;plus ace;plus acd;");
            Check.due("derive()", x.derive(), 1);
            Check.due("exchange(5, 6)", x.exchange(5, 6), 5);
            Check.due("derived", x.count(3), 0);
        });
        Edges.edge(10, sentence, "a contradiction", () -> {
            TripleSigns x = Making.contradicted();
            x.exchange(0, 1);
            Check.due("count(8)", x.count(8), Edges.NONE);
        });
        Edges.edge(10, sentence, "the uniform mode stays", () -> {
            TripleSigns x = Making.busy(5);
            x.exchange(0, 1);
            Check.due("count(9)", x.count(9), 1);
        });
    }

    private static void exchangeRefuses() {
        String points = "Throws `IndexOutOfBoundsException` if there is no such point";
        Edges.edge(10, points, "the first is none", () ->
                Edges.noSuchPoint("exchange(i, 0)", (x, wrong) -> x.exchange(wrong, 0)));
        Edges.edge(10, points, "the second is none", () ->
                Edges.noSuchPoint("exchange(0, j)", (x, wrong) -> x.exchange(0, wrong)));
        Edges.edge(10, "`i`: a point", "the first and the last one", () -> {
            Check.due("of three", Making.points(3).exchange(2, 0), 0);
            Check.due("of eight", Making.points(8).exchange(7, 0), 0);
        });
        Edges.edge(10, "`j`: another point", "the first and the last one", () -> {
            Check.due("of three", Making.points(3).exchange(0, 2), 0);
            Check.due("of eight", Making.points(8).exchange(0, 7), 0);
        });
        Edges.edge(10, "Throws `IllegalArgumentException` if i and j are equal", "each point", () -> {
            Edges.refused(Edges.IAE, "exchange(0, 0)", x -> x.exchange(0, 0));
            Edges.refused(Edges.IAE, "exchange(1, 1)", x -> x.exchange(1, 1));
            Edges.refused(Edges.IAE, "exchange(2, 2)", x -> x.exchange(2, 2));
            Edges.refused(() -> Making.busy(8), Edges.IAE, "exchange(7, 7)", x -> x.exchange(7, 7));
        });
        Edges.edge(10, "If several exceptions of a method apply, the one that is listed first is thrown.",
                "no such point comes before equal points", () ->
                Edges.noSuchPoint("exchange(i, i)", (x, wrong) -> x.exchange(wrong, wrong)));
    }
}
