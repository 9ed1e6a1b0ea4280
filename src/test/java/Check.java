/** Counts what is not as due; each test's main ends with finish(). */
final class Check {
    /** A call of the class under test; a boolean answer counts 1 or 0. */
    interface Call {
        long answer();
    }

    static final Class<IndexOutOfBoundsException> INDEX = IndexOutOfBoundsException.class;
    static final Class<IllegalArgumentException> ARGUMENT = IllegalArgumentException.class;
    static final Class<IllegalStateException> STATE = IllegalStateException.class;

    private static int checks = 0;
    private static int wrong = 0;
    private static String about = "";

    private Check() {
    }

    /** What the checks that follow are about; stands ahead of each that is wrong. */
    static void about(String what) {
        about = what.isEmpty() ? "" : what + ": ";
    }

    static void due(String what, long want, Call call) {
        same(what, "" + want, outcome(call));
    }

    static void refuses(String what, Class<? extends RuntimeException> want, Call call) {
        same(what, want.getSimpleName(), outcome(call));
    }

    static void same(String what, String want, String got) {
        checks++;
        if (!want.equals(got)) {
            wrong++;
            System.out.println("WRONG " + about + what + ": answered " + got + ", due is " + want);
        }
    }

    static void holds(String what, boolean is) {
        same(what, "true", "" + is);
    }

    static String outcome(Call call) {
        try {
            return "" + call.answer();
        } catch (RuntimeException e) {
            return e.getClass().getSimpleName();
        }
    }

    static int wrongSoFar() {
        return wrong;
    }

    static void finish(String test) {
        System.out.println(test + ": " + checks + " checks, " + wrong + " wrong");
        if (wrong != 0) {
            System.exit(1);
        }
    }
}
