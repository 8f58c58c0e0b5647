import java.math.BigInteger;
import java.util.ArrayList;
import java.util.List;

/** Edges of promises 21 to 25: coordinates, the signs by them, and placements at random. */
final class CoordinateEdges {
    private static final String FIRST =
            "If several exceptions of a method apply, the one that is listed first is thrown.";
    private static final int[] FAR = {-51, 51, Edges.NONE, Edges.MAX, Edges.MIN};

    private CoordinateEdges() {
    }

    static void all() {
        place();
        placeRefuses();
        coordinate();
        coordinateRefuses();
        read();
        readSigns();
        readAsGive();
        mismatches();
        scatter();
        scatterPlacements();
        scatterBest();
        scatterRefuses();
    }

    private static void duePlace(String told, TripleSigns x, int point, int due, int dueY) {
        Check.due(told + ": x of " + point, x.coordinate(point, 0), due);
        Check.due(told + ": y of " + point, x.coordinate(point, 1), dueY);
    }

    // ---- promise 21

    private static void place() {
        Edges.edge(21, "`x`: -50 to 50", "both ends", () -> {
            TripleSigns x = new TripleSigns();
            x.place(0, -50, 1);
            duePlace("least", x, 0, -50, 1);
            x.place(0, 50, 1);
            duePlace("most", x, 0, 50, 1);
        });
        Edges.edge(21, "`y`: -50 to 50", "both ends", () -> {
            TripleSigns x = new TripleSigns();
            x.place(0, 1, -50);
            duePlace("least", x, 0, 1, -50);
            x.place(0, 1, 50);
            duePlace("most", x, 0, 1, 50);
        });
        Edges.edge(21, "Sets the coordinates of a point.", "of this point alone", () -> {
            TripleSigns x = new TripleSigns();
            x.place(2, 3, 4);
            for (int p = 0; p < 5; p++) {
                duePlace("placed", x, p, p == 2 ? 3 : Edges.NONE, p == 2 ? 4 : Edges.NONE);
            }
        });
        Edges.edge(21, "Sets the coordinates of a point.", "two points may have the same", () -> {
            TripleSigns x = new TripleSigns();
            x.place(0, 0, 0);
            Check.due("place(1, 0, 0)", x.place(1, 0, 0), false);
            duePlace("the first", x, 0, 0, 0);
            duePlace("the second", x, 1, 0, 0);
        });
        Edges.edge(21, "Returns true if it had coordinates before.", "0, both ends, and the same again", () -> {
            TripleSigns x = new TripleSigns();
            Check.due("place(1, 0, 0)", x.place(1, 0, 0), false);
            Check.due("place(1, 0, 0) again", x.place(1, 0, 0), true);
            Check.due("place(1, -50, -50)", x.place(1, -50, -50), true);
            Check.due("place(1, 50, 50)", x.place(1, 50, 50), true);
            Check.due("place(1, 50, 50) again", x.place(1, 50, 50), true);
            Check.due("place(0, 0, 0)", x.place(0, 0, 0), false);
            x.begin(5);
            Check.due("after begin()", x.place(1, 0, 0), false);
        });
        Edges.edge(21, "Undoable.", "those before come back, also where there were none", () -> {
            Edges.undoable("place(0)", x -> x.place(0, 50, -50) ? 1 : 0);
            Edges.undoable("place(1)", x -> x.place(1, 0, 0) ? 1 : 0);
            Edges.undoable("place(2) as it is", x -> x.place(2, -50, 50) ? 1 : 0);
        });
    }

    private static void placeRefuses() {
        Edges.edge(21, "`point`: a point", "the first and the last one", () -> {
            for (int n = 3; n <= 8; n++) {
                TripleSigns x = Making.points(n);
                x.place(0, 1, 2);
                x.place(n - 1, 3, 4);
                duePlace("the first of " + n, x, 0, 1, 2);
                duePlace("the last of " + n, x, n - 1, 3, 4);
            }
        });
        Edges.edge(21, "Throws `IndexOutOfBoundsException` if there is no such point", "just outside and far", () ->
                Edges.noSuchPoint("place(p, 1, 1)", (x, wrong) -> x.place(wrong, 1, 1) ? 1 : 0));
        Edges.edge(21, "Throws `IllegalArgumentException` if x or y is out of range", "x just outside and far", () ->
                Edges.refusedEach(FAR, Edges.IAE, "place(0, x, 1)", (x, wrong) -> x.place(0, wrong, 1) ? 1 : 0));
        Edges.edge(21, "Throws `IllegalArgumentException` if x or y is out of range", "y just outside and far", () ->
                Edges.refusedEach(FAR, Edges.IAE, "place(1, 1, y)", (x, wrong) -> x.place(1, 1, wrong) ? 1 : 0));
        Edges.edge(21, "Throws `IllegalArgumentException` if x or y is out of range", "both", () ->
                Edges.refused(Edges.IAE, "place(1, 51, -51)", x -> x.place(1, 51, -51) ? 1 : 0));
        Edges.edge(21, FIRST, "no such point comes before x or y", () -> {
            Edges.noSuchPoint("place(p, 51, 1)", (x, wrong) -> x.place(wrong, 51, 1) ? 1 : 0);
            Edges.noSuchPoint("place(p, 1, -51)", (x, wrong) -> x.place(wrong, 1, -51) ? 1 : 0);
        });
    }

    // ---- promise 22

    private static void coordinate() {
        Edges.edge(22, "`what`: 0 x, 1 y", "both", () -> {
            TripleSigns x = new TripleSigns();
            x.place(4, 7, -8);
            Check.due("coordinate(4, 0)", x.coordinate(4, 0), 7);
            Check.due("coordinate(4, 1)", x.coordinate(4, 1), -8);
        });
        Edges.edge(22, "Returns the coordinate; NONE if it has none.", "none, 0 and both ends", () -> {
            TripleSigns x = new TripleSigns();
            duePlace("none", x, 0, Edges.NONE, Edges.NONE);
            x.place(0, 0, 0);
            duePlace("0", x, 0, 0, 0);
            x.place(0, -50, 50);
            duePlace("both ends", x, 0, -50, 50);
            x.undo();
            x.undo();
            duePlace("none again", x, 0, Edges.NONE, Edges.NONE);
        });
        Edges.edge(22, "Returns a coordinate of a point.", "nothing changes by it", () ->
                Edges.changesNothing("coordinate(0, 1)", x -> x.coordinate(0, 1)));
    }

    private static void coordinateRefuses() {
        Edges.edge(22, "`point`: a point", "the first and the last one", () -> {
            for (int n = 3; n <= 8; n++) {
                TripleSigns x = Making.parabola(n);
                duePlace("the first of " + n, x, 0, 0, 0);
                duePlace("the last of " + n, x, n - 1, n - 1, (n - 1) * (n - 1));
            }
        });
        Edges.edge(22, "Throws `IndexOutOfBoundsException` if there is no such point", "just outside and far", () -> {
            Edges.noSuchPoint("coordinate(p, 0)", (x, wrong) -> x.coordinate(wrong, 0));
            Edges.noSuchPoint("coordinate(p, 1)", (x, wrong) -> x.coordinate(wrong, 1));
        });
        Edges.edge(22, "Throws `IllegalArgumentException` if what is out of range",
                "with coordinates and without", () -> {
            int[] wrong = {-1, 2, Edges.NONE, Edges.MAX, Edges.MIN};
            Edges.refusedEach(wrong, Edges.IAE, "coordinate(0, what)", (x, what) -> x.coordinate(0, what));
            Edges.refusedEach(wrong, Edges.IAE, "coordinate(1, what)", (x, what) -> x.coordinate(1, what));
        });
        Edges.edge(22, FIRST, "no such point comes before what is out of range", () -> {
            Edges.noSuchPoint("coordinate(p, 2)", (x, wrong) -> x.coordinate(wrong, 2));
            Edges.noSuchPoint("coordinate(p, -1)", (x, wrong) -> x.coordinate(wrong, -1));
        });
    }

    // ---- promise 23

    private static void read() {
        String sentence = "Returns how many triples have points that all have coordinates (also those that had this "
                + "sign already).";
        Edges.edge(23, sentence, "fewer than three points with coordinates", () -> {
            TripleSigns x = Making.points(8);
            Check.due("no point", x.read(), 0);
            x.place(0, 1, 2);
            Check.due("one point", x.read(), 0);
            x.place(7, 3, 4);
            Check.due("two points", x.read(), 0);
            Check.due("unknown", x.count(4), 56);
        });
        Edges.edge(23, sentence, "from three points on", () -> {
            TripleSigns x = Making.points(8);
            int[] due = {0, 0, 1, 4, 10, 20, 35, 56};
            for (int p = 0; p < 8; p++) {
                x.place(p, p, p * p);
                Check.due("read() with " + p, x.read(), due[p]);
                Check.due("given with " + p, x.count(2), due[p]);
            }
            Check.due("read() again", x.read(), 56);
        });
        Edges.edge(23, "Gives all triples whose points have coordinates their signs by these, as give() does.",
                "the others keep theirs", () -> {
            TripleSigns x = Making.signs("minus abc;zero abd;plus cde;");
            x.place(0, 0, 0);
            x.place(1, 1, 0);
            x.place(2, 0, 1);
            Check.due("read()", x.read(), 1);
            Check.due("012", x.triple(0, 3), 1);
            Check.due("013", x.triple(1, 3), 0);
            Check.due("234", x.triple(9, 3), 1);
            Check.due("given", x.count(2), 3);
        });
        Edges.edge(23, "Undoable.", "the signs before come back", () -> {
            Edges.undoable("read() of two points", TripleSigns::read);
            Edges.undoable(() -> Making.withRoom(Making.contradicted()), "read() of none", TripleSigns::read);
            Edges.undoable(() -> {
                TripleSigns x = Making.parabola(8);
                x.mirror();
                return Making.withRoom(x);
            }, "read() of all", TripleSigns::read);
        });
    }

    private static int signAt(int... at) {
        TripleSigns x = Making.points(3);
        for (int p = 0; p < 3; p++) {
            x.place(p, at[2 * p], at[2 * p + 1]);
        }
        x.read();
        return x.sign(0, 1, 2);
    }

    private static void readSigns() {
        String sentence = "The sign of an ordered triple of points (i, j, k) with coordinates by these is the sign "
                + "of (xj - xi) * (yk - yi) - (yj - yi) * (xk - xi).";
        Edges.edge(23, sentence, "the greatest triangles", () -> {
            Check.due("left", signAt(-50, -50, 50, -50, 50, 50), 1);
            Check.due("right", signAt(50, 50, 50, -50, -50, -50), -1);
        });
        Edges.edge(23, sentence, "the flattest triangles", () -> {
            Check.due("left", signAt(-50, -50, 49, 48, 50, 49), 1);
            Check.due("right", signAt(-50, -50, 50, 49, 49, 48), -1);
        });
        Edges.edge(23, sentence, "on a line", () -> {
            Check.due("in order", signAt(-50, -50, 0, 0, 50, 50), 0);
            Check.due("out of order", signAt(50, -50, -50, 50, 0, 0), 0);
            Check.due("level", signAt(-50, 7, 50, 7, 0, 7), 0);
            Check.due("upright", signAt(7, -50, 7, 50, 7, 0), 0);
        });
        Edges.edge(23, sentence, "equal points", () -> {
            Check.due("two", signAt(1, 2, 1, 2, 5, 9), 0);
            Check.due("two others", signAt(1, 2, 5, 9, 1, 2), 0);
            Check.due("three", signAt(0, 0, 0, 0, 0, 0), 0);
        });
        Edges.edge(23, sentence, "every place of a small square", () -> {
            for (int code = 0; code < 729; code++) {
                int[] at = new int[6];
                int rest = code;
                for (int c = 0; c < 6; c++) {
                    at[c] = rest % 3 - 1;
                    rest /= 3;
                }
                int area = (at[2] - at[0]) * (at[5] - at[1]) - (at[3] - at[1]) * (at[4] - at[0]);
                Check.due("code " + code, signAt(at), Integer.signum(area));
            }
        });
    }

    private static void readAsGive() {
        String same = "Giving a given triple the sign that it has changes nothing.";
        Edges.edge(23, same, "derived triples and a contradiction stay", () -> {
            TripleSigns x = placed(Making.chain(), 0, 0, 1, 0, 0, 1);
            Check.due("read()", x.read(), 1);
            Check.due("derived", x.count(3), 2);
            TripleSigns against = placed(Making.contradicted(), 0, 0, 1, 0, 0, 1);
            Check.due("read()", against.read(), 1);
            Check.due("contradiction", against.count(8), 1);
        });
        String change = "Whenever a given sign changes (but by mirror() and turn()) or is taken away, all derived "
                + "triples become unknown, and a contradiction is forgotten.";
        Edges.edge(23, change, "another sign", () -> {
            TripleSigns x = placed(Making.chain(), 0, 0, 0, 1, 1, 0);
            Check.due("read()", x.read(), 1);
            Check.due("012", x.sign(0, 1, 2), -1);
            Check.due("derived", x.count(3), 0);
            TripleSigns against = placed(Making.contradicted(), 0, 0, 0, 1, 1, 0);
            against.read();
            Check.due("contradiction", against.count(8), Edges.NONE);
        });
        Edges.edge(23, "(Giving an unknown triple a sign does not do this, but forgets a contradiction, too.)",
                "an unknown triple", () -> {
            TripleSigns x = placedLast(Making.chain());
            Check.due("read()", x.read(), 1);
            Check.due("234", x.triple(9, 4), 1);
            Check.due("derived", x.count(3), 2);
            TripleSigns against = placedLast(Making.contradicted());
            against.read();
            Check.due("contradiction", against.count(8), Edges.NONE);
            Check.due("derived", against.count(3), 1);
        });
        Edges.edge(23, "A derived triple that is given a sign, also the one that it has, becomes a given one, which "
                + "counts as a change: all other derived triples become unknown.", "the sign that it has", () -> {
            TripleSigns x = Making.chain();
            x.place(0, 0, 0);
            x.place(1, 0, 1);
            x.place(4, 1, 0);
            Check.due("read()", x.read(), 1);
            Check.due("014: sign", x.triple(2, 3), -1);
            Check.due("014: kind", x.triple(2, 4), 1);
            Check.due("134: kind", x.triple(8, 4), 0);
            Check.due("given", x.count(2), 8);
        });
        Edges.edge(23, "Gives all triples whose points have coordinates",
                "two derived triples become given ones", () -> {
            // 014 and 134 have the signs that they get; 013 and 034 get others.
            TripleSigns x = Making.chain();
            x.place(0, 0, 0);
            x.place(1, -1, 1);
            x.place(3, -1, 0);
            x.place(4, 0, 1);
            Check.due("read()", x.read(), 4);
            Check.due("014", x.triple(2, 3), -1);
            Check.due("134", x.triple(8, 4), 1);
            Check.due("given", x.count(2), 9);
            Check.due("derived", x.count(3), 0);
        });
        Edges.edge(23, "(In it signs 0 can be given all the same.)", "three points on a line", () -> {
            TripleSigns x = placed(new TripleSigns(), 0, 0, 1, 1, 2, 2);
            x.setUniform(true);
            x.read();
            Check.due("012", x.sign(0, 1, 2), 0);
        });
    }

    /** Places the first three points. */
    private static TripleSigns placed(TripleSigns x, int... at) {
        for (int p = 0; p < 3; p++) {
            x.place(p, at[2 * p], at[2 * p + 1]);
        }
        return x;
    }

    /** Places the last three of five points, whose triple is unknown in what is made. */
    private static TripleSigns placedLast(TripleSigns x) {
        x.place(2, 0, 0);
        x.place(3, 1, 0);
        x.place(4, 0, 1);
        return x;
    }

    // ---- promise 24

    private static void mismatches() {
        String sentence = "A mismatch is a triple with a sign whose points have coordinates, and whose sign by these "
                + "(in ascending order of the points) is another one.";
        Edges.edge(24, sentence, "no sign", () ->
                Check.due("mismatches()", placed(new TripleSigns(), 0, 0, 1, 0, 0, 1).mismatches(), 0));
        Edges.edge(24, sentence, "no coordinates", () -> {
            Check.due("none", Making.signs("plus abc;").mismatches(), 0);
            TripleSigns x = Making.signs("minus abc;");
            x.place(0, 0, 0);
            x.place(1, 1, 0);
            Check.due("of two points", x.mismatches(), 0);
            x.place(2, 0, 1);
            Check.due("of three points", x.mismatches(), 1);
        });
        Edges.edge(24, sentence, "each sign with each sign by coordinates", () -> {
            int[][] at = {{0, 0, 0, 1, 1, 0}, {0, 0, 1, 1, 2, 2}, {0, 0, 1, 0, 0, 1}};
            for (int sign = -1; sign <= 1; sign++) {
                for (int by = -1; by <= 1; by++) {
                    TripleSigns x = placed(new TripleSigns(), at[by + 1]);
                    x.give(0, 1, 2, sign);
                    Check.due(sign + " and " + by, x.mismatches(), sign == by ? 0 : 1);
                }
            }
        });
        Edges.edge(24, sentence, "a derived triple", () -> {
            TripleSigns x = Making.chain();
            x.place(0, 0, 0);
            x.place(1, 1, 0);
            x.place(4, 0, 1);
            Check.due("014 is -1", x.mismatches(), 1);
            x.forget();
            Check.due("014 is unknown", x.mismatches(), 0);
        });
        Edges.edge(24, "Returns the number of mismatches.", "all of three and of eight points", () -> {
            for (int n : new int[] {3, 8}) {
                TripleSigns x = Making.parabola(n);
                Check.due("none of " + n, x.mismatches(), 0);
                x.mirror();
                Check.due("all of " + n, x.mismatches(), x.count(1));
            }
        });
        Edges.edge(24, "Returns the number.", "nothing changes by it", () ->
                Edges.changesNothing("mismatches()", TripleSigns::mismatches));
    }

    // ---- promise 25

    /** The placements that the document tells, one after the other: x and y of each point. */
    private static List<int[]> placements(int n, int seed, int tries, int range) {
        List<int[]> all = new ArrayList<>();
        BigInteger s = BigInteger.valueOf(seed);
        for (int t = 0; t < tries; t++) {
            int[] at = new int[2 * n];
            for (int c = 0; c < 2 * n; c++) {
                s = s.multiply(BigInteger.valueOf(1103515245)).add(BigInteger.valueOf(12345))
                        .mod(BigInteger.ONE.shiftLeft(31));
                at[c] = s.shiftRight(16).mod(BigInteger.valueOf(2 * range + 1)).intValue() - range;
            }
            all.add(at);
        }
        return all;
    }

    private static void dueAt(String told, TripleSigns x, int[] at) {
        for (int c = 0; c < at.length; c++) {
            Check.due(told + ": coordinate(" + c / 2 + ", " + c % 2 + ")", x.coordinate(c / 2, c % 2), at[c]);
        }
    }

    private static void scatter() {
        Edges.edge(25, "`seed`: 0 to 999999", "both ends", () -> {
            for (int seed : new int[] {0, 1, 999998, 999999}) {
                TripleSigns x = new TripleSigns();
                Check.due("scatter()", x.scatter(seed, 1, 50), 0);
                dueAt("seed " + seed, x, placements(5, seed, 1, 50).get(0));
            }
        });
        Edges.edge(25, "`tries`: 1 to 50", "both ends", () -> {
            TripleSigns x = new TripleSigns();
            Check.due("scatter(7, 1, 3)", x.scatter(7, 1, 3), 0);
            Check.due("scatter(7, 50, 3)", x.scatter(7, 50, 3), 0);
            dueAt("the first one", x, placements(5, 7, 1, 3).get(0));
        });
        Edges.edge(25, "`range`: 1 to 50", "both ends", () -> {
            for (int range : new int[] {1, 2, 49, 50}) {
                TripleSigns x = Making.points(8);
                x.scatter(123456, 1, range);
                dueAt("range " + range, x, placements(8, 123456, 1, range).get(0));
            }
        });
        Edges.edge(25, "and sets the coordinates of all points to the best one:", "with and without any before", () -> {
            for (int n = 3; n <= 8; n++) {
                TripleSigns x = Making.points(n);
                x.place(0, 50, 50);
                x.scatter(5, 1, 9);
                dueAt("of " + n, x, placements(n, 5, 1, 9).get(0));
            }
        });
        Edges.edge(25, "Tries placements at random,", "signs, derived ones and a contradiction stay", () -> {
            TripleSigns x = Making.busy(5);
            x.scatter(5, 50, 9);
            TripleSigns twin = Making.busy(5);
            for (int what = 0; what <= 9; what++) {
                Check.due("count(" + what + ")", x.count(what), twin.count(what));
            }
            for (int t = 0; t < 10; t++) {
                Check.due("sign of " + t, x.triple(t, 3), twin.triple(t, 3));
            }
        });
        Edges.edge(25, "Undoable.", "the coordinates before come back", () ->
                Edges.undoable("scatter(1, 2, 3)", x -> x.scatter(1, 2, 3)));
    }

    private static void scatterPlacements() {
        String sentence = "A placement at random in a range r is made like this: a number s is the seed at first; "
                + "for each point in ascending order s becomes (1103515245 * s + 12345) modulo 2147483648 for x, and "
                + "then in the same way for y; each is (s / 65536, rounded down) modulo (2r + 1), minus r.";
        Edges.edge(25, sentence, "the first numbers, by hand", () -> {
            // 12345 / 65536 is 0; 1103515245 * 12345 + 12345 is 1406932606 behind the wrap-around, of which
            // 21468 is left, and 21468 modulo 101 is 56.
            TripleSigns x = new TripleSigns();
            x.scatter(0, 1, 50);
            duePlace("seed 0", x, 0, -50, 6);
        });
        Edges.edge(25, sentence, "the modulus of many seeds", () -> {
            for (int seed = 0; seed <= 999999; seed += 8771) {
                TripleSigns x = Making.points(8);
                x.scatter(seed, 1, 1 + seed % 50);
                dueAt("seed " + seed, x, placements(8, seed, 1, 1 + seed % 50).get(0));
            }
        });
        Edges.edge(25, sentence, "both ends of a range are reached, and nothing beyond", () -> {
            for (int range = 1; range <= 50; range += 7) {
                int least = 0;
                int most = 0;
                for (int seed = 0; seed < 400; seed++) {
                    TripleSigns x = Making.points(8);
                    x.scatter(seed, 1, range);
                    for (int p = 0; p < 8; p++) {
                        least = Math.min(least, Math.min(x.coordinate(p, 0), x.coordinate(p, 1)));
                        most = Math.max(most, Math.max(x.coordinate(p, 0), x.coordinate(p, 1)));
                    }
                }
                Check.due("least of " + range, least, -range);
                Check.due("most of " + range, most, range);
            }
        });
    }

    private static int misses(TripleSigns x, int[] at) {
        int misses = 0;
        for (int t = 0; t < x.count(1); t++) {
            int sign = x.triple(t, 3);
            int i = 2 * x.triple(t, 0);
            int j = 2 * x.triple(t, 1);
            int k = 2 * x.triple(t, 2);
            int area = (at[j] - at[i]) * (at[k + 1] - at[i + 1]) - (at[j + 1] - at[i + 1]) * (at[k] - at[i]);
            misses += sign != Edges.NONE && sign != Integer.signum(area) ? 1 : 0;
        }
        return misses;
    }

    /** Checks the best of some placements, and tells which of them it is. */
    private static int dueBest(Edges.Maker maker, int seed, int tries, int range) {
        TripleSigns asked = maker.make();
        List<int[]> all = placements(asked.count(0), seed, tries, range);
        int best = 0;
        int fewest = Edges.MAX;
        for (int t = 0; t < tries; t++) {
            int misses = misses(maker.make(), all.get(t));
            if (misses < fewest) {
                fewest = misses;
                best = t;
            }
        }
        String told = "scatter(" + seed + ", " + tries + ", " + range + ")";
        TripleSigns x = maker.make();
        Check.due(told, x.scatter(seed, tries, range), fewest);
        dueAt(told, x, all.get(best));
        Check.due(told + ", mismatches()", x.mismatches(), fewest);
        return best;
    }

    private static void scatterBest() {
        String best = "the one with the fewest mismatches, of several the first one.";
        Edges.edge(25, best, "of several the first one", () -> {
            dueBest(TripleSigns::new, 3, 50, 5);
            dueBest(() -> Making.signs("plus abc;"), 3, 50, 5);
            dueBest(() -> Making.signs("plus abc;minus cde;"), 4, 50, 1);
        });
        Edges.edge(25, best, "derived signs count, unknown ones do not", () -> {
            dueBest(Making::chain, 17, 50, 4);
            dueBest(Making::contradicted, 18, 50, 4);
        });
        Edges.edge(25, "Of several placements the next one goes on with s.",
                "the first, the last, and others are best", () -> {
            int firsts = 0;
            int lasts = 0;
            for (int seed = 0; seed < 300; seed++) {
                int found = dueBest(() -> Making.parabola(4), seed, 4, 3);
                firsts += found == 0 ? 1 : 0;
                lasts += found == 3 ? 1 : 0;
            }
            Check.due("the first one is best sometimes", firsts > 0, true);
            Check.due("the last one is best sometimes", lasts > 0, true);
        });
        Edges.edge(25, "`tries`: 1 to 50", "the fiftieth one is best", () -> {
            int lasts = 0;
            for (int seed = 0; seed < 400 && lasts == 0; seed++) {
                lasts += dueBest(() -> Making.parabola(8), seed, 50, 2) == 49 ? 1 : 0;
            }
            Check.due("found", lasts, 1);
        });
        Edges.edge(25, "Returns the number of mismatches of the best one.", "all of eight points", () -> {
            // No three of the points of this placement lie on a line.
            TripleSigns x = Making.flat(8);
            Check.due("scatter(3, 1, 50)", x.scatter(3, 1, 50), 56);
            Check.due("mismatches()", x.mismatches(), 56);
        });
    }

    private static void scatterRefuses() {
        String sentence = "Throws `IllegalArgumentException` if an argument is out of range";
        Edges.edge(25, sentence, "the seed", () ->
                Edges.refusedEach(new int[] {-1, 1000000, Edges.NONE, Edges.MAX, Edges.MIN}, Edges.IAE,
                        "scatter(seed, 1, 1)", (x, wrong) -> x.scatter(wrong, 1, 1)));
        Edges.edge(25, sentence, "the tries", () ->
                Edges.refusedEach(new int[] {0, 51, -1, Edges.NONE, Edges.MAX, Edges.MIN}, Edges.IAE,
                        "scatter(1, tries, 1)", (x, wrong) -> x.scatter(1, wrong, 1)));
        Edges.edge(25, sentence, "the range", () ->
                Edges.refusedEach(new int[] {0, 51, -1, Edges.NONE, Edges.MAX, Edges.MIN}, Edges.IAE,
                        "scatter(1, 1, range)", (x, wrong) -> x.scatter(1, 1, wrong)));
        Edges.edge(25, sentence, "all of them", () ->
                Edges.refused(Edges.IAE, "scatter(-1, 0, 0)", x -> x.scatter(-1, 0, 0)));
    }
}
