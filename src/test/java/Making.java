/** Objects in the states that the tests of edges begin with. */
final class Making {
    private Making() {
    }

    static TripleSigns points(int n) {
        TripleSigns x = new TripleSigns();
        x.begin(n);
        return x;
    }

    static void write(TripleSigns x, String text) {
        x.clearScript();
        for (int c = 0; c < text.length(); c++) {
            x.type(text.charAt(c));
        }
    }

    /** Writes the script and runs it. */
    static int run(TripleSigns x, String text) {
        write(x, text);
        return x.run();
    }

    /** Five points with what the script gives. */
    static TripleSigns signs(String script) {
        return signs(5, script);
    }

    static TripleSigns signs(int n, String script) {
        TripleSigns x = points(n);
        run(x, script);
        x.clearScript();
        return x;
    }

    /** The text of the given signs. */
    static String text(TripleSigns x) {
        StringBuilder text = new StringBuilder();
        int next = x.written(0);
        while (next != Edges.NONE) {
            text.append((char) next);
            next = x.written(text.length());
        }
        return text.toString();
    }

    /** How many states are saved in what the maker makes. */
    static int states(Edges.Maker maker) {
        TripleSigns x = maker.make();
        for (int states = 0; states < 100; states++) {
            try {
                x.undo();
            } catch (IllegalStateException e) {
                return states;
            }
        }
        return 100;
    }

    /**
     * Seven given signs (023 to be with 1) and two derived ones: 014 = -1 by relation 0 (its products
     * are 012 * 034 = 1, 0, and 014 * 023), then 134 = 1 by relation 1 (-012 * 134, 0 and
     * -014 * 123 = 1). 234 stays unknown.
     */
    static TripleSigns chain() {
        TripleSigns x = signs("plus abc;plus ade;zero abd;plus ace;plus acd;plus bcd;plus bce;");
        x.derive();
        return x;
    }

    /** 014 = -1 is derived by relation 0; then relation 1 has 1 (-012 * 134), 0 and 1 (-014 * 123). */
    static TripleSigns contradicted() {
        return contradicted(5, false);
    }

    private static TripleSigns contradicted(int n, boolean uniform) {
        TripleSigns x = signs(n, "plus abc;plus ade;zero abd;plus ace;plus acd;minus bde;plus bce;plus bcd;");
        x.setUniform(uniform);
        x.derive();
        return x;
    }

    /**
     * The uniform mode, given and derived signs, a contradiction, some coordinates, a script, and four
     * saved states, which are all different. With fewer than five points there is one sign alone.
     */
    static TripleSigns busy(int n) {
        TripleSigns x = n < 5 ? signs(n, "plus abc;") : contradicted(n, true);
        if (n < 5) {
            x.setUniform(true);
        }
        write(x, "plus cba; drop bcd ;derive;mirror;");
        x.mirror();
        x.place(0, 5, -7);
        x.place(2, -50, 50);
        x.turn(2);
        return x;
    }

    /** As busy(), with the latest three of its saved states, so that one more drops none. */
    static TripleSigns busyWithRoom(int n) {
        return withRoom(busy(n));
    }

    /** The same state, and one saved state less where there were four. */
    static TripleSigns withRoom(TripleSigns x) {
        x.mirror();
        x.undo();
        return x;
    }

    /** The same state, and no saved states. */
    static TripleSigns emptied(TripleSigns x) {
        for (int call = 0; call < 4; call++) {
            x.mirror();
        }
        for (int call = 0; call < 4; call++) {
            x.undo();
        }
        return x;
    }

    /** All points on a parabola: every sign is given, and is 1. */
    static TripleSigns parabola(int n) {
        TripleSigns x = points(n);
        for (int p = 0; p < n; p++) {
            x.place(p, p, p * p);
        }
        x.read();
        return x;
    }

    /** Every sign is given, and is 0. */
    static TripleSigns flat(int n) {
        TripleSigns x = points(n);
        for (int p = 0; p < n; p++) {
            x.place(p, p, p);
        }
        x.read();
        return x;
    }

    /** The number of the triple i < j < k of n points, counted from the first one on. */
    static int number(int n, int i, int j, int k) {
        int number = 0;
        for (int a = 0; a < n; a++) {
            for (int b = a + 1; b < n; b++) {
                for (int c = b + 1; c < n; c++) {
                    if (a == i && b == j && c == k) {
                        return number;
                    }
                    number++;
                }
            }
        }
        return -1;
    }

    /** The sign that brings i, j, k into ascending order; 0 if two are equal. */
    static int parity(int i, int j, int k) {
        return Integer.signum((j - i) * (k - i) * (k - j));
    }
}
