/** Counts answers that are not as due; the tests end with it. */
final class Check {
    /** A call whose answer is a number; a boolean counts 1 or 0. */
    interface Call {
        long answer();
    }

    private static int checks = 0;
    private static int wrong = 0;
    private static String part = "";

    private Check() {
    }

    /** What the reports from now on belong to; "" for none. */
    static void within(String name) {
        part = name;
    }

    static void due(String what, long got, long want) {
        checks++;
        if (got != want) {
            report(what + " answered " + got + ", due is " + want);
        }
    }

    static void due(String what, boolean got, boolean want) {
        due(what, got ? 1 : 0, want ? 1 : 0);
    }

    /** The exception must be of the very class: the document's, and none that the machine throws. */
    static void dueThrow(String what, Class<? extends RuntimeException> want, Call call) {
        checks++;
        try {
            report(what + " answered " + call.answer() + ", due is " + want.getName());
        } catch (RuntimeException e) {
            if (e.getClass() != want) {
                report(what + " threw " + e.getClass().getName() + ", due is " + want.getName());
            }
        }
    }

    static int checks() {
        return checks;
    }

    static int wrong() {
        return wrong;
    }

    static void end(String test) {
        System.out.println(test + ": " + checks + " checks, " + wrong + " wrong");
        if (wrong != 0 || checks == 0) {
            System.exit(1);
        }
    }

    private static void report(String line) {
        wrong++;
        if (wrong <= 50) {
            System.out.println(part.isEmpty() ? line : part + ": " + line);
        }
    }
}
