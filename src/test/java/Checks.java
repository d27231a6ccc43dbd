/** Counts the answers that are not as due, and ends the test's run by them. */
final class Checks {
    static final String INDEX = "IndexOutOfBoundsException";
    static final String ARGUMENT = "IllegalArgumentException";
    static final String STATE = "IllegalStateException";

    interface Call {
        long answer();
    }

    private static int asked = 0;
    private static int wrong = 0;

    private Checks() {
    }

    static void due(String what, long want, long got) {
        asked++;
        if (got != want) {
            wrong++;
            System.out.println(what + " answered " + got + ", due is " + want);
        }
    }

    static void yes(String what, boolean holds) {
        due(what, 1, holds ? 1 : 0);
    }

    /** The exception must be of the named class itself, so that one from the machine (a subclass) is found. */
    static void thrown(String what, String name, Call call) {
        asked++;
        String got = nameOf(call);
        if (!got.equals(name)) {
            wrong++;
            System.out.println(what + ": " + got + ", due is " + name);
        }
    }

    /** The simple name of what the call throws, or its answer. */
    static String nameOf(Call call) {
        try {
            return "answered " + call.answer();
        } catch (RuntimeException e) {
            return e.getClass().getSimpleName();
        }
    }

    /** The answer of a call that must not throw; for one that throws, a number that no call answers. */
    static long answerOf(Call call) {
        try {
            return call.answer();
        } catch (RuntimeException e) {
            System.out.println("thrown: " + e);
            return Long.MIN_VALUE;
        }
    }

    static void end() {
        System.out.println(wrong == 0 ? asked + " answers are as due" : wrong + " of " + asked + " answers are not as due");
        if (wrong != 0 || asked == 0) {
            System.exit(1);
        }
    }
}
