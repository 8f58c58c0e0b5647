import java.util.ArrayList;
import java.util.List;

/** Objects in the states that the tests of edges begin with. */
final class Making {
    // 014 = -1 is derived by relation 0; then relation 1 has 1 (-012 * 134), 0 and 1 (-014 * 123).
    private static final String AGAINST = "plus abc;plus ade;zero abd;plus ace;plus acd;minus bde;plus bce;plus bcd;";
    private static final String CHAIN = "plus abc;plus ade;zero abd;plus ace;plus acd;plus bcd;plus bce;";
    static final String SCRIPT = "plus cba; drop bcd ;derive;mirror;";

    private Making() {
    }

    static TripleSigns points(int n) {
        TripleSigns x = new TripleSigns();
        x.begin(n);
        return x;
    }

    static void write(TripleSigns x, String text) {
        x.clearScript();
        for (int c = 0; c < text.length(); c++) {
            x.type(text.charAt(c));
        }
    }

    /** Writes the script and runs it. */
    static int run(TripleSigns x, String text) {
        write(x, text);
        return x.run();
    }

    /** Five points with what the script gives. */
    static TripleSigns signs(String script) {
        return signs(5, script);
    }

    static TripleSigns signs(int n, String script) {
        TripleSigns x = points(n);
        run(x, script);
        x.clearScript();
        return x;
    }

    /** The text of the given signs. */
    static String text(TripleSigns x) {
        StringBuilder text = new StringBuilder();
        int next = x.written(0);
        while (next != Edges.NONE) {
            text.append((char) next);
            next = x.written(text.length());
        }
        return text.toString();
    }

    /** How many states are saved in what the maker makes. */
    static int states(Edges.Maker maker) {
        TripleSigns x = maker.make();
        for (int states = 0; states < 100; states++) {
            try {
                x.undo();
            } catch (IllegalStateException e) {
                return states;
            }
        }
        return 100;
    }

    /**
     * Seven given signs and two derived ones: 014 = -1 by relation 0 (its products are 012 * 034 = 1,
     * 0, and 014 * 023), then 134 = 1 by relation 1 (-012 * 134, 0 and -014 * 123 = 1). 234 stays
     * unknown.
     */
    static TripleSigns chain() {
        TripleSigns x = signs(CHAIN);
        x.derive();
        return x;
    }

    /** Eight given signs, 014 derived by relation 0, and a contradiction with relation 1. */
    static TripleSigns contradicted() {
        TripleSigns x = signs(AGAINST);
        x.derive();
        return x;
    }

    /**
     * The uniform mode, given and derived signs, a contradiction, some coordinates, a script, and four
     * saved states, which are all different. With fewer than five points there is one sign alone.
     */
    static TripleSigns busy(int n) {
        TripleSigns x = busyUniform(n);
        x.mirror();
        x.place(0, 5, -7);
        x.place(2, -50, 50);
        x.turn(2);
        return x;
    }

    /** As busy(), without coordinates, and with three saved states: one more drops none. */
    static TripleSigns busyUniform(int n) {
        TripleSigns x = new TripleSigns();
        x.setUniform(true);
        x.begin(n);
        run(x, n < 5 ? "plus abc;" : AGAINST + "derive;");
        write(x, SCRIPT);
        return x;
    }

    /** As busy(), without the uniform mode, and with three saved states: one more drops none. */
    static TripleSigns busyPlaced(int n) {
        TripleSigns x = points(n);
        x.scatter(7, 1, 50);
        run(x, n < 5 ? "plus abc;" : AGAINST + "derive;");
        write(x, SCRIPT);
        return x;
    }

    /** As busyPlaced(), with given signs alone, from which others follow that are not derived yet. */
    static TripleSigns ready(int n) {
        TripleSigns x = points(n);
        x.scatter(7, 1, 50);
        run(x, n < 5 ? "plus abc;" : CHAIN);
        write(x, SCRIPT);
        return x;
    }

    /** Five points without unknown triples, with a contradiction and a script. */
    static TripleSigns full() {
        TripleSigns x = signs(AGAINST + "derive;plus cde;derive;");
        write(x, SCRIPT);
        return x;
    }

    /** The same state, and one saved state less where there were four. */
    static TripleSigns withRoom(TripleSigns x) {
        x.mirror();
        x.undo();
        return x;
    }

    /** The same state, and no saved states. */
    static TripleSigns emptied(TripleSigns x) {
        for (int call = 0; call < 4; call++) {
            x.mirror();
        }
        for (int call = 0; call < 4; call++) {
            x.undo();
        }
        return x;
    }

    /** All points on a parabola: every sign is given, and is 1. */
    static TripleSigns parabola(int n) {
        TripleSigns x = points(n);
        for (int p = 0; p < n; p++) {
            x.place(p, p, p * p);
        }
        x.read();
        return x;
    }

    /** Every sign is given, and is 0. */
    static TripleSigns flat(int n) {
        TripleSigns x = points(n);
        for (int p = 0; p < n; p++) {
            x.place(p, p, p);
        }
        x.read();
        return x;
    }

    /**
     * The six ordered triples of a relation of five points: its first product has the first two, its
     * second one, which counts turned, the next two, and its third one the last two.
     */
    static int[][] factors(int relation) {
        return factorsOf(relations(5).get(relation));
    }

    /** The points a to e of each relation of n points. */
    static List<int[]> relations(int n) {
        List<int[]> relations = new ArrayList<>();
        for (int a = 0; a < n; a++) {
            for (int code = 0; code < 4096; code++) {
                int[] p = {a, code >> 9, code >> 6 & 7, code >> 3 & 7, code & 7};
                boolean rises = p[1] < p[2] && p[2] < p[3] && p[3] < p[4] && p[4] < n;
                if (rises && p[1] != a && p[2] != a && p[3] != a && p[4] != a) {
                    relations.add(p);
                }
            }
        }
        return relations;
    }

    /**
     * So many points with 0 for all triples but those of a relation, of which one is unknown: one of
     * the other products is not 0, so that there is one sign that fits. The products of all other
     * relations are 0, since two of the triples that are not 0 meet in no other one.
     */
    static TripleSigns lone(int n, int[] p, int unknown) {
        TripleSigns x = points(n);
        for (int i = 0; i < n; i++) {
            for (int j = i + 1; j < n; j++) {
                for (int k = j + 1; k < n; k++) {
                    x.give(i, j, k, 0);
                }
            }
        }
        int[][] factors = factorsOf(p);
        int partner = unknown ^ 1;
        int other = (unknown + 2) % 6;
        for (int f : new int[] {partner, other, other ^ 1}) {
            x.give(factors[f][0], factors[f][1], factors[f][2], 1);
        }
        x.drop(factors[unknown][0], factors[unknown][1], factors[unknown][2]);
        return x;
    }

    private static int[][] factorsOf(int[] p) {
        return new int[][] {{p[0], p[1], p[2]}, {p[0], p[3], p[4]}, {p[0], p[1], p[3]},
            {p[0], p[2], p[4]}, {p[0], p[1], p[4]}, {p[0], p[2], p[3]}};
    }

    /** Tells whether a relation is fulfilled with these signs of its factors. */
    static boolean fulfilled(int[] signs) {
        int first = signs[0] * signs[1];
        int second = -signs[2] * signs[3];
        int third = signs[4] * signs[5];
        boolean plus = first == 1 || second == 1 || third == 1;
        boolean minus = first == -1 || second == -1 || third == -1;
        return plus == minus;
    }

    /** Five of six signs by a code from 0 to 242; the one that is left out is 0. */
    static int[] signsBy(int code, int without) {
        int[] signs = new int[6];
        int rest = code;
        for (int f = 0; f < 6; f++) {
            if (f != without) {
                signs[f] = rest % 3 - 1;
                rest /= 3;
            }
        }
        return signs;
    }

    /** Five points with all factors of a relation but one. */
    static TripleSigns factorsGiven(int relation, int[] signs, int without) {
        TripleSigns x = new TripleSigns();
        int[][] factors = factors(relation);
        for (int f = 0; f < 6; f++) {
            if (f != without) {
                x.give(factors[f][0], factors[f][1], factors[f][2], signs[f]);
            }
        }
        return x;
    }

    /** The number of the first derived triple; 0 without any. */
    static int derived(TripleSigns x) {
        int triples = x.count(1);
        for (int t = 0; t < triples; t++) {
            if (x.triple(t, 4) == 2) {
                return t;
            }
        }
        return 0;
    }

    /** The number of the triple i < j < k of n points, counted from the first one on. */
    static int number(int n, int i, int j, int k) {
        int number = 0;
        for (int a = 0; a < n; a++) {
            for (int b = a + 1; b < n; b++) {
                for (int c = b + 1; c < n; c++) {
                    if (a == i && b == j && c == k) {
                        return number;
                    }
                    number++;
                }
            }
        }
        return -1;
    }

    /** The sign that brings i, j, k into ascending order; 0 if two are equal. */
    static int parity(int i, int j, int k) {
        return Integer.signum((j - i) * (k - i) * (k - j));
    }
}
