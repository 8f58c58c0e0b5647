import java.util.List;

/** Edges of promises 6 and 7: deriving, contradictions, and forgetting what was derived. */
final class DerivingEdges {
    private static final String POSSIBLE = "For a relation with exactly one unknown triple, the possible signs of "
            + "this triple are those of -1, 0 and 1 (in the uniform mode only -1 and 1) with which the relation is "
            + "fulfilled.";
    private static final String ONE = "If there is exactly one, the triple gets it at once, as a derived one; it has "
            + "the relation, and the step: the number of triples that are derived then, itself included.";
    private static final String NONE = "If there is none, or a relation without unknown triples is violated, this is "
            + "a contradiction with this relation, and deriving ends.";
    private static final String ROUNDS = "To derive means: a contradiction is forgotten; then the relations are gone "
            + "through in ascending order, again and again, until they have been gone through once without a change, "
            + "or there is a contradiction.";

    private DerivingEdges() {
    }

    static void all() {
        nothing();
        possible();
        everyFactor();
        one();
        none();
        ends();
        rounds();
        answers();
        forget();
    }

    private static void nothing() {
        Edges.edge(6, POSSIBLE, "no sign at all", () -> {
            TripleSigns x = new TripleSigns();
            Check.due("derive()", x.derive(), 0);
            Check.due("unknown", x.count(4), 10);
            Check.due("contradiction", x.count(8), Edges.NONE);
        });
        Edges.edge(6, POSSIBLE, "two unknown triples are not exactly one", () -> {
            TripleSigns x = Making.signs("plus abc;plus ade;zero abd;plus ace;");
            Check.due("derive()", x.derive(), 0);
            Check.due("unknown", x.count(4), 6);
            TripleSigns same = Making.signs("zero abc;zero ade;zero abd;zero ace;");
            Check.due("derive() of both factors of a product", same.derive(), 0);
            TripleSigns violated = Making.signs("plus abc;plus ade;zero abd;zero abe;");
            Check.due("derive() where nothing fits any more", violated.derive(), 0);
            Check.due("contradiction", violated.count(8), Edges.NONE);
        });
        Edges.edge(6, POSSIBLE, "three and four points have no relation", () -> {
            for (int n = 3; n <= 4; n++) {
                TripleSigns x = Making.parabola(n);
                x.drop(0, 1, 2);
                Check.due("derive() of " + n, x.derive(), 0);
                Check.due("contradiction", x.count(8), Edges.NONE);
            }
        });
    }

    private static TripleSigns derived(String script, boolean uniform) {
        TripleSigns x = Making.signs(script);
        x.setUniform(uniform);
        x.derive();
        return x;
    }

    private static void dueUnknown(String told, TripleSigns x) {
        Check.due(told + ": kind of 014", x.triple(2, 4), 0);
        Check.due(told + ": derived", x.count(3), 0);
        Check.due(told + ": contradiction", x.count(8), Edges.NONE);
    }

    private static void possible() {
        Edges.edge(6, POSSIBLE, "0 alone", () -> {
            TripleSigns x = derived("zero abc;plus ade;zero abd;plus ace;plus acd;", false);
            Check.due("014", x.triple(2, 3), 0);
            Check.due("kind", x.triple(2, 4), 2);
            Check.due("contradiction", x.count(8), Edges.NONE);
        });
        Edges.edge(6, POSSIBLE, "0 alone is none in the uniform mode", () -> {
            TripleSigns x = derived("zero abc;plus ade;zero abd;plus ace;plus acd;", true);
            Check.due("014", x.triple(2, 3), Edges.NONE);
            Check.due("contradiction", x.count(8), 0);
        });
        Edges.edge(6, POSSIBLE, "all three: the other products are 1 and -1", () ->
                dueUnknown("off", derived("plus abc;plus ade;plus abd;plus ace;plus acd;", false)));
        Edges.edge(6, POSSIBLE, "two in the uniform mode: the other products are 1 and -1", () ->
                dueUnknown("on", derived("plus abc;plus ade;plus abd;plus ace;plus acd;", true)));
        Edges.edge(6, POSSIBLE, "all: every product is 0 whatever the sign", () -> {
            dueUnknown("off", derived("zero abc;plus ade;zero abd;plus ace;zero acd;", false));
            dueUnknown("on", derived("zero abc;plus ade;zero abd;plus ace;zero acd;", true));
        });
        Edges.edge(6, POSSIBLE, "a sign that is given as 0 counts in the uniform mode, too", () -> {
            TripleSigns x = derived("plus abc;plus ade;zero abd;plus ace;plus acd;", true);
            Check.due("014", x.triple(2, 3), -1);
        });
    }

    private static void everyFactor() {
        Edges.edge(6, POSSIBLE, "each triple of each relation of five points by all signs of the others", () -> {
            for (int relation = 0; relation < 5; relation++) {
                for (int unknown = 0; unknown < 6; unknown++) {
                    for (int code = 0; code < 243; code++) {
                        everySign(relation, unknown, Making.signsBy(code, unknown), false);
                        everySign(relation, unknown, Making.signsBy(code, unknown), true);
                    }
                }
            }
        });
    }

    private static void everySign(int relation, int unknown, int[] signs, boolean uniform) {
        TripleSigns x = Making.factorsGiven(relation, signs, unknown);
        x.setUniform(uniform);
        x.derive();
        int fitting = 0;
        int found = Edges.NONE;
        for (int sign = -1; sign <= 1; sign++) {
            signs[unknown] = sign;
            if (Making.fulfilled(signs) && !(uniform && sign == 0)) {
                fitting++;
                found = sign;
            }
        }
        int[] p = Making.factors(relation)[unknown];
        String told = "factor " + unknown + " of relation " + relation;
        Check.due(told, x.sign(p[0], p[1], p[2]), fitting == 1 ? found : Edges.NONE);
        Check.due(told + ", contradiction", x.count(8), fitting == 0 ? relation : Edges.NONE);
        Check.due(told + ", forget()", x.forget(), fitting == 1 ? 1 : 0);
        Check.due(told + " forgotten", x.sign(p[0], p[1], p[2]), Edges.NONE);
    }

    private static void one() {
        Edges.edge(6, ONE, "a later relation of the same round uses it", () -> {
            TripleSigns x = Making.chain();
            Check.due("014: sign", x.triple(2, 3), -1);
            Check.due("014: kind", x.triple(2, 4), 2);
            Check.due("014: relation", x.triple(2, 5), 0);
            Check.due("014: step", x.triple(2, 6), 1);
            Check.due("134: sign", x.triple(8, 3), 1);
            Check.due("134: kind", x.triple(8, 4), 2);
            Check.due("134: relation", x.triple(8, 5), 1);
            Check.due("134: step", x.triple(8, 6), 2);
        });
        Edges.edge(6, ONE, "the step counts those of earlier calls", () -> {
            TripleSigns x = Making.signs("plus abc;plus ade;zero abd;plus ace;plus acd;");
            Check.due("derive()", x.derive(), 1);
            Making.run(x, "plus bcd;plus bce;");
            Check.due("derive() again", x.derive(), 1);
            Check.due("014: step", x.triple(2, 6), 1);
            Check.due("134: step", x.triple(8, 6), 2);
        });
        Edges.edge(6, ONE, "the step begins anew when all were forgotten", () -> {
            TripleSigns x = Making.chain();
            x.forget();
            Check.due("derive()", x.derive(), 2);
            Check.due("014: step", x.triple(2, 6), 1);
            Check.due("134: step", x.triple(8, 6), 2);
        });
        Edges.edge(6, ONE, "the first of the relations that tell it is the one that it has", () -> {
            // 014 follows from relation 0, and from relation 1 as well: -1, 0 and -014.
            TripleSigns x = Making.signs("minus abc;plus ade;zero abd;plus ace;minus acd;minus bde;plus bcd;plus bce;");
            x.derive();
            Check.due("014: sign", x.triple(2, 3), -1);
            Check.due("014: relation", x.triple(2, 5), 0);
        });
        Edges.edge(6, ONE, "each triple of each relation of five to eight points", () -> {
            for (int n = 5; n <= 8; n++) {
                List<int[]> relations = Making.relations(n);
                for (int r = 0; r < relations.size(); r++) {
                    for (int unknown = 0; unknown < 6; unknown++) {
                        TripleSigns x = Making.lone(n, relations.get(r), unknown);
                        Check.due("derive() of relation " + r + " of " + n, x.derive(), 1);
                        int triple = Making.derived(x);
                        Check.due("relation of " + triple, x.triple(triple, 5), r);
                        Check.due("step of " + triple, x.triple(triple, 6), 1);
                        Check.due("contradiction", x.count(8), Edges.NONE);
                    }
                }
            }
        });
        Edges.edge(6, ONE, "the last relation of eight points", () -> {
            // Its products are those of 347 and 567, of 357 and 467 (turned), and of 367 and 457.
            TripleSigns x = Making.signs(8, "plus deh;plus fgh;zero dfh;plus egh;plus dgh;");
            Check.due("derive()", x.derive(), 1);
            Check.due("457", x.sign(4, 5, 7), -1);
            Check.due("457: relation", x.triple(53, 5), 279);
            Check.due("457: step", x.triple(53, 6), 1);
        });
    }

    private static void none() {
        Edges.edge(6, NONE, "there is none", () -> {
            TripleSigns x = derived("plus abc;plus ade;zero abd;plus ace;zero acd;", false);
            Check.due("contradiction", x.count(8), 0);
            Check.due("014", x.triple(2, 4), 0);
            TripleSigns two = derived("plus abc;plus ade;minus abd;plus ace;zero acd;", false);
            Check.due("contradiction of two equal products", two.count(8), 0);
        });
        Edges.edge(6, NONE, "a relation without unknown triples is violated", () -> {
            TripleSigns x = derived("plus abc;plus ade;zero abd;plus ace;plus acd;plus abe;", false);
            Check.due("contradiction", x.count(8), 0);
            Check.due("derived", x.count(3), 0);
        });
        Edges.edge(6, NONE, "the last relation of eight points", () -> {
            TripleSigns x = Making.signs(8, "plus deh;plus fgh;zero dfh;zero egh;zero dgh;zero efh;");
            Check.due("derive()", x.derive(), 0);
            Check.due("contradiction", x.count(8), 279);
            TripleSigns open = Making.signs(8, "plus deh;plus fgh;zero dfh;zero egh;zero dgh;");
            Check.due("derive()", open.derive(), 0);
            Check.due("contradiction", open.count(8), 279);
        });
        Edges.edge(6, NONE, "all relations are fulfilled", () -> {
            TripleSigns x = Making.parabola(8);
            Check.due("derive()", x.derive(), 0);
            Check.due("contradiction", x.count(8), Edges.NONE);
        });
    }

    private static void ends() {
        Edges.edge(6, NONE, "what was derived before it stays", () -> {
            TripleSigns x = Making.contradicted();
            Check.due("contradiction", x.count(8), 1);
            Check.due("014: sign", x.triple(2, 3), -1);
            Check.due("014: relation", x.triple(2, 5), 0);
        });
        Edges.edge(6, NONE, "nothing is derived after it", () -> {
            // Relation 1 derives 014 = 0; then relation 2 has 1, 0 and 1. Another round would derive 034
            // from relation 0.
            TripleSigns x = Making.signs("minus abc;plus abd;plus acd;minus ace;minus bcd;zero bce;zero bde;"
                    + "minus cde;");
            Check.due("derive()", x.derive(), 1);
            Check.due("contradiction", x.count(8), 2);
            Check.due("034", x.triple(5, 4), 0);
        });
        Edges.edge(6, NONE, "relations behind it are not looked at", () -> {
            // Relation 0 has 1, 0 and 0; relation 139 (d with e to h) would derive 356.
            TripleSigns x = Making.signs(8, "plus abc;plus ade;zero abd;plus ace;zero abe;plus acd;");
            Making.run(x, "zero efh;plus egh;plus def;zero deg;plus dfh;plus deh;plus dgh;plus efg;");
            TripleSigns without = Making.signs(8, "zero efh;plus egh;plus def;zero deg;plus dfh;plus deh;plus dgh;"
                    + "plus efg;");
            without.derive();
            Check.due("356 without a contradiction: relation", without.triple(49, 5), 139);
            Check.due("derive() with it", x.derive(), 0);
            Check.due("contradiction", x.count(8), 0);
        });
    }

    private static void rounds() {
        Edges.edge(6, ROUNDS, "a contradiction is forgotten, and another one is found", () -> {
            // Relation 1 derives 014 = 1; then relation 3 has 0 * 234, 1 and 1. The next call finds that
            // relation 0 has -1, 0 * 024 and -1 by now.
            TripleSigns x = Making.signs("plus abc;zero abd;minus acd;minus ade;plus bcd;plus bce;minus bde;");
            Check.due("derive()", x.derive(), 1);
            Check.due("contradiction", x.count(8), 3);
            Check.due("derive() again", x.derive(), 0);
            Check.due("contradiction again", x.count(8), 0);
            // Relation 2 derives 124 = -1; then relation 3 has -1, -1 and 0. In the next call relation 1
            // comes first, with -1, -1 and 0.
            TripleSigns later = Making.signs("minus abc;plus abd;plus acd;plus ace;zero bcd;minus bde;plus cde;");
            Check.due("derive()", later.derive(), 1);
            Check.due("contradiction", later.count(8), 3);
            Check.due("derive() again", later.derive(), 0);
            Check.due("contradiction again", later.count(8), 1);
        });
        Edges.edge(6, ROUNDS, "a contradiction is forgotten, and something is derived in front of it", () -> {
            // As in "nothing is derived after it"; the next call derives 034 before it finds relation 2 again.
            TripleSigns x = Making.signs("minus abc;plus abd;plus acd;minus ace;minus bcd;zero bce;zero bde;"
                    + "minus cde;");
            Check.due("derive()", x.derive(), 1);
            Check.due("derive() again", x.derive(), 1);
            Check.due("034", x.triple(5, 3), 1);
            Check.due("034: step", x.triple(5, 6), 2);
            Check.due("contradiction again", x.count(8), 2);
        });
        Edges.edge(6, ROUNDS, "four rounds of six points", () -> {
            TripleSigns x = Making.signs(6, "minus abd;zero abe;plus acd;plus ace;zero adf;zero aef;zero bce;"
                    + "minus bcf;minus bdf;zero bef;plus cdf;plus cef;");
            Check.due("derive()", x.derive(), 5);
            int[] triples = {19, 3, 6, 0, 7};
            int[] relations = {29, 27, 28, 12, 0};
            int[] signs = {1, 0, 0, -1, 1};
            for (int step = 1; step <= 5; step++) {
                int t = triples[step - 1];
                Check.due("step of " + t, x.triple(t, 6), step);
                Check.due("relation of " + t, x.triple(t, 5), relations[step - 1]);
                Check.due("sign of " + t, x.triple(t, 3), signs[step - 1]);
            }
        });
        Edges.edge(6, ROUNDS, "six rounds of eight points leave nothing to a second call", () -> {
            TripleSigns x = Making.signs(8, "minus abc;minus abf;plus acd;minus acg;plus adf;minus aef;minus afg;"
                    + "minus afh;minus bcd;minus bce;");
            Making.run(x, "minus bch;plus bdg;plus beg;plus bfh;plus cdf;minus cef;minus cfg;minus def;plus dfg;"
                    + "minus efg;minus fgh;");
            Check.due("derive()", x.derive(), 18);
            Check.due("rounds", rounds(x, 18), 6);
            Check.due("derive() again", x.derive(), 0);
            Check.due("contradiction", x.count(8), Edges.NONE);
        });
    }

    /** A step whose relation does not come behind that of the step before it begins another round. */
    private static int rounds(TripleSigns x, int steps) {
        int[] relations = new int[steps + 1];
        for (int t = 0; t < x.count(1); t++) {
            if (x.triple(t, 4) == 2) {
                relations[x.triple(t, 6)] = x.triple(t, 5);
            }
        }
        int rounds = 1;
        for (int s = 2; s <= steps; s++) {
            rounds += relations[s] <= relations[s - 1] ? 1 : 0;
        }
        return rounds;
    }

    private static void answers() {
        String sentence = "Returns how many triples were derived by this call.";
        Edges.edge(6, sentence, "none", () -> Check.due("derive()", new TripleSigns().derive(), 0));
        Edges.edge(6, sentence, "those of an earlier call do not count", () -> {
            TripleSigns x = Making.chain();
            Check.due("derive() again", x.derive(), 0);
            Check.due("derived", x.count(3), 2);
        });
        Edges.edge(6, sentence, "those before a contradiction count", () -> {
            TripleSigns x = Making.contradicted();
            x.forget();
            Check.due("derive()", x.derive(), 1);
            Check.due("contradiction", x.count(8), 1);
        });
        Edges.edge(6, "Derives. Undoable.", "what was unknown before is unknown again", () -> {
            Edges.undoable(() -> {
                TripleSigns x = Making.chain();
                x.undo();
                return x;
            }, "derive() of two", TripleSigns::derive);
            Edges.undoable("derive() of none", TripleSigns::derive);
        });
    }

    private static void forget() {
        String sentence = "Makes all derived triples unknown, and forgets a contradiction.";
        Edges.edge(7, sentence, "derived ones alone", () -> {
            TripleSigns x = Making.chain();
            x.forget();
            Check.due("derived", x.count(3), 0);
            Check.due("given", x.count(2), 7);
            Check.due("unknown", x.count(4), 3);
            for (int what = 5; what <= 6; what++) {
                Check.due("triple(2, " + what + ")", x.triple(2, what), Edges.NONE);
            }
            Check.due("reasons", x.reasons(8), 0);
        });
        Edges.edge(7, sentence, "a contradiction with derived ones", () -> {
            TripleSigns x = Making.contradicted();
            Check.due("forget()", x.forget(), 1);
            Check.due("count(8)", x.count(8), Edges.NONE);
        });
        Edges.edge(7, sentence, "a contradiction without any", () -> {
            TripleSigns x = derived("plus abc;plus ade;zero abd;plus ace;zero acd;", false);
            Check.due("contradiction", x.count(8), 0);
            Check.due("forget()", x.forget(), 0);
            Check.due("count(8)", x.count(8), Edges.NONE);
        });
        Edges.edge(7, "Returns how many triples became unknown.", "none and two", () -> {
            Check.due("none at all", new TripleSigns().forget(), 0);
            Check.due("given ones alone", Making.parabola(8).forget(), 0);
            TripleSigns x = Making.chain();
            Check.due("two", x.forget(), 2);
            Check.due("none any more", x.forget(), 0);
        });
        Edges.edge(7, "Undoable.", "derived ones and a contradiction come back", () -> {
            Edges.undoable("forget()", TripleSigns::forget);
            Edges.undoable(() -> Making.withRoom(Making.contradicted()), "forget()", TripleSigns::forget);
        });
    }
}
