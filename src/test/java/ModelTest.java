import java.util.List;

/** Long runs of calls at random, from fixed seeds, on the class and on the model. */
public final class ModelTest {
    private static final int RUNS = 480;
    private static final int CALLS = 512;

    private interface Call {
        long on(TripleSigns x);
    }

    private interface ModelCall {
        long on(Model m);
    }

    private static final int[] WILD = {
        -1, 3, 4, 5, 8, 9, 10, 51, -51, 56, 280, 120, 128, -100,
        Integer.MAX_VALUE, Integer.MIN_VALUE, 1 << 29, -(1 << 29),
    };

    private static final List<String> COMMANDS = List.of(
            "plus abc;", "plus  bca ;", "minus abd;", "zero abe;", "plus cde;", "minus  ade;",
            "zero bcd ;", "drop abc;", "drop bda;", "drop  cde  ;", "derive;", "derive ;", "mirror;",
            " mirror  ;", "plus abf;", "minus fgh;", "plus aab;", "plus bce;", "plus ace;", "minus ebd;",
            "drop cab;", "plus acd;", "zero acb;", "  ");
    private static final List<String> SPOILERS = List.of(
            "z", ";", " ", "a", "i", "plus", "plu", "plus ;", "plusabc;", "derive a", "mirror;;", "drop ab",
            "zero abcd;", "minus abi;", "Plus", "plus\u0001", "der", "derive", "drop", "{", "`", "\u007f");

    private long seed;
    private TripleSigns x;
    private Model m;
    private int calls;
    private int run;

    private static int derived = 0;
    private static int contradictions = 0;
    private static int lateSteps = 0;
    private static int counted = 0;
    private static int manyWays = 0;
    private static int ranScripts = 0;
    private static int faults = 0;
    private static int thrown = 0;

    public static void main(String[] args) {
        for (int run = 0; run < RUNS && Check.wrong() == 0; run++) {
            new ModelTest().go(run);
        }
        System.out.println("derived " + derived + ", late steps " + lateSteps + ", contradictions "
                + contradictions + ", completions " + counted + " (many ways " + manyWays
                + "), scripts " + ranScripts + ", faults " + faults + ", thrown " + thrown);
        Check.due("the runs reach what they are to test", derived > 1000 && lateSteps > 500
                && contradictions > 500 && counted > 1000 && manyWays > 300 && ranScripts > 500
                && faults > 500 && thrown > 5000, true);
        Check.end("ModelTest");
    }

    private int random(int bound) {
        seed = seed * 6364136223846793005L + 1442695040888963407L;
        return (int) ((seed >>> 33) % bound);
    }

    private boolean chance(int percent) {
        return random(100) < percent;
    }

    private int wild() {
        return WILD[random(WILD.length)];
    }

    private int point() {
        return chance(3) ? wild() : random(m.points());
    }

    /** A point that is mostly none of two others, since most calls with equal points throw. */
    private int other(int p, int q) {
        int found = point();
        for (int tries = 0; tries < 8 && (found == p || found == q); tries++) {
            found = point();
        }
        return found;
    }

    private int number(int low, int high) {
        return chance(3) ? wild() : low + random(high - low + 1);
    }

    private void go(int number) {
        run = number;
        seed = number * 7919L + 1;
        x = new TripleSigns();
        m = new Model();
        calls = 0;
        both("digest()", TripleSigns::digest, Model::digest);
        int mode = number % 4;
        while (calls < CALLS - 2 && Check.wrong() == 0) {
            if (mode == 0) {
                anything();
            } else if (mode == 1) {
                signs(5);
            } else if (mode == 2) {
                places();
            } else if (chance(30)) {
                scripts();
            } else {
                signs(4 + number % 5);
            }
            if (chance(40)) {
                both("digest()", TripleSigns::digest, Model::digest);
            }
        }
    }

    /** Calls both; returns the answer, or NONE if they threw. */
    private long both(String name, Call call, ModelCall modelCall) {
        if (calls >= CALLS) {
            return Model.NONE;
        }
        calls++;
        long want = 0;
        Class<? extends RuntimeException> exception = null;
        try {
            want = modelCall.on(m);
        } catch (RuntimeException e) {
            exception = e.getClass();
        }
        String what = "run " + run + ", call " + calls + ": " + name;
        if (exception != null) {
            thrown++;
            Check.dueThrow(what, exception, () -> call.on(x));
            return Model.NONE;
        }
        try {
            Check.due(what, call.on(x), want);
        } catch (RuntimeException e) {
            Check.due(what + " threw " + e, false, true);
        }
        return want;
    }

    private static String told(String name, int... arguments) {
        StringBuilder text = new StringBuilder(name).append('(');
        for (int a = 0; a < arguments.length; a++) {
            text.append(a == 0 ? "" : ", ").append(arguments[a]);
        }
        return text.append(')').toString();
    }

    // ---- single calls

    private void begin(int points) {
        both(told("begin", points), x -> x.begin(points), m -> m.begin(points));
    }

    private void give() {
        int i = point();
        int j = other(i, i);
        int k = other(i, j);
        int sign = number(-1, 1);
        both(told("give", i, j, k, sign), x -> x.give(i, j, k, sign), m -> m.give(i, j, k, sign));
    }

    private void drop() {
        int i = point();
        int j = other(i, i);
        int k = other(i, j);
        both(told("drop", i, j, k), x -> x.drop(i, j, k), m -> m.drop(i, j, k));
    }

    private void setUniform() {
        boolean on = chance(40);
        both("setUniform(" + on + ")", x -> x.setUniform(on) ? 1 : 0, m -> m.setUniform(on) ? 1 : 0);
    }

    private void derive() {
        int before = m.derivedCount();
        long found = both("derive()", TripleSigns::derive, Model::derive);
        derived += found > 0 ? 1 : 0;
        lateSteps += found > 1 || before > 0 && found > 0 ? 1 : 0;
        contradictions += m.count(8) != Model.NONE ? 1 : 0;
    }

    private void transform() {
        int p = point();
        int q = point();
        switch (random(4)) {
            case 0:
                both("mirror()", TripleSigns::mirror, Model::mirror);
                break;
            case 1:
                both(told("turn", p), x -> x.turn(p), m -> m.turn(p));
                break;
            case 2:
                both(told("exchange", p, q), x -> x.exchange(p, q), m -> m.exchange(p, q));
                break;
            default:
                both("forget()", TripleSigns::forget, Model::forget);
        }
    }

    private void ask() {
        int p = point();
        int q = point();
        int r = point();
        int triple = number(0, m.count(1) - 1);
        int relation = number(0, Math.max(0, m.count(5) - 1));
        int what = number(0, 9);
        switch (random(8)) {
            case 0:
                both(told("sign", p, q, r), x -> x.sign(p, q, r), m -> m.sign(p, q, r));
                break;
            case 1:
                both(told("triple", triple, what), x -> x.triple(triple, what), m -> m.triple(triple, what));
                break;
            case 2:
                both(told("reasons", triple), x -> x.reasons(triple), m -> m.reasons(triple));
                break;
            case 3:
                both(told("count", what), x -> x.count(what), m -> m.count(what));
                break;
            case 4:
                both(told("relation", relation, what), x -> x.relation(relation, what),
                        m -> m.relation(relation, what));
                break;
            case 5:
                both(told("behind", relation), x -> x.behind(relation), m -> m.behind(relation));
                break;
            default:
                follow(p, q);
        }
    }

    private void follow(int p, int q) {
        int index = number(0, 20 + 9 * random(50));
        switch (random(5)) {
            case 0:
                both(told("cocircuit", p, q), x -> x.cocircuit(p, q), m -> m.cocircuit(p, q));
                break;
            case 1:
                both(told("isExtreme", p), x -> x.isExtreme(p) ? 1 : 0, m -> m.isExtreme(p) ? 1 : 0);
                break;
            case 2:
                both("lines()", TripleSigns::lines, Model::lines);
                break;
            case 3:
                both(told("written", index), x -> x.written(index), m -> m.written(index));
                break;
            default:
                completions();
        }
    }

    private void completions() {
        long ways = both("completions()", TripleSigns::completions, Model::completions);
        counted += ways >= 0 ? 1 : 0;
        manyWays += ways > 1 ? 1 : 0;
    }

    private void place() {
        int p = point();
        int span = chance(70) ? 3 : 50;
        int a = number(-span, span);
        int b = number(-span, span);
        both(told("place", p, a, b), x -> x.place(p, a, b) ? 1 : 0, m -> m.place(p, a, b) ? 1 : 0);
    }

    private void coordinates() {
        int p = point();
        int what = number(0, 1);
        int tries = number(1, chance(80) ? 3 : 50);
        int range = number(1, chance(70) ? 4 : 50);
        int start = number(0, 999999);
        switch (random(5)) {
            case 0:
                both(told("coordinate", p, what), x -> x.coordinate(p, what), m -> m.coordinate(p, what));
                break;
            case 1:
                both("read()", TripleSigns::read, Model::read);
                break;
            case 2:
                both("mismatches()", TripleSigns::mismatches, Model::mismatches);
                break;
            case 3:
                both(told("scatter", start, tries, range), x -> x.scatter(start, tries, range),
                        m -> m.scatter(start, tries, range));
                break;
            default:
                place();
        }
    }

    private void type(int value) {
        both(told("type", value), x -> x.type(value), m -> m.type(value));
    }

    private void runScript() {
        long answer = both("run()", TripleSigns::run, Model::run);
        ranScripts += answer > 0 ? 1 : 0;
        faults += answer <= -1000 ? 1 : 0;
    }

    private void undo() {
        both("undo()", TripleSigns::undo, Model::undo);
    }

    private void clearScript() {
        both("clearScript()", TripleSigns::clearScript, Model::clearScript);
    }

    // ---- kinds of runs

    private void anything() {
        switch (random(14)) {
            case 0:
                if (chance(20)) {
                    begin(number(3, 8));
                }
                break;
            case 1:
                drop();
                break;
            case 2:
                setUniform();
                break;
            case 3:
                derive();
                break;
            case 4:
                transform();
                break;
            case 5:
                ask();
                break;
            case 6:
                coordinates();
                break;
            case 7:
                type(number(0, 127));
                break;
            case 8:
                runScript();
                break;
            case 9:
                undo();
                break;
            case 10:
                clearScript();
                break;
            default:
                give();
        }
    }

    /** Many signs of few points, so that something can be derived. */
    private void signs(int points) {
        if (m.points() != points && chance(70)) {
            begin(points);
            return;
        }
        int dice = random(20);
        if (dice < 9) {
            give();
        } else if (dice < 12) {
            derive();
        } else if (dice < 13) {
            drop();
        } else if (dice < 14) {
            transform();
        } else if (dice < 15 && chance(50)) {
            undo();
        } else if (dice < 15 && chance(30)) {
            setUniform();
        } else if (dice < 16) {
            coordinates();
        } else if (dice < 17) {
            completions();
        } else {
            ask();
        }
    }

    /** Signs of placed points, of which some are taken away, changed and derived again. */
    private void places() {
        if (chance(4)) {
            begin(4 + random(5));
        }
        int dice = random(20);
        if (dice < 3) {
            int start = random(1000000);
            int range = 1 + random(4);
            both(told("scatter", start, 1, range), x -> x.scatter(start, 1, range),
                    m -> m.scatter(start, 1, range));
            both("read()", TripleSigns::read, Model::read);
        } else if (dice < 9) {
            drop();
        } else if (dice < 12) {
            derive();
        } else if (dice < 13) {
            coordinates();
        } else if (dice < 14) {
            transform();
        } else if (dice < 15) {
            if (m.unknownCount() <= 10) {
                completions();
            }
        } else if (dice < 16) {
            if (chance(30)) {
                give();
            }
        } else if (dice < 17) {
            undo();
        } else {
            ask();
        }
    }

    private void scripts() {
        if (m.scriptLength() > 60 || chance(20)) {
            clearScript();
        }
        for (int part = random(4); part >= 0; part--) {
            String text = chance(8) ? SPOILERS.get(random(SPOILERS.size()))
                    : COMMANDS.get(random(COMMANDS.size()));
            for (int c = 0; c < text.length(); c++) {
                type(text.charAt(c));
            }
        }
        runScript();
    }
}
