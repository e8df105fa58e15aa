/** Counts the answers that are not due, and ends a test. */
final class Check {
    interface Call {
        Object answer();
    }

    private static int made = 0;
    private static int wrong = 0;

    private Check() {
    }

    static void due(String call, Object want, Call caller) {
        same(call, want, answerOf(caller));
    }

    static void throwsDue(String call, Class<? extends RuntimeException> want, Call caller) {
        due(call, "throws." + want.getSimpleName(), caller);
    }

    /** The answer of a call, or a text that names what it throws. */
    static Object answerOf(Call caller) {
        try {
            return caller.answer();
        } catch (RuntimeException e) {
            return "throws." + e.getClass().getSimpleName();
        }
    }

    static void same(String what, Object want, Object got) {
        made++;
        if (!want.equals(got)) {
            wrong++;
            System.out.println(what + " answered " + got + ", due is " + want);
        }
    }

    static void end(String test) {
        System.out.println(test + ": " + made + " checks, " + wrong + " wrong");
        if (wrong != 0 || made == 0) {
            System.exit(1);
        }
    }
}
