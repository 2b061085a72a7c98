/** Compares answers with what is due, and tells at the end whether all were right. */
final class Check {
    interface Call {
        long run();
    }

    private static int checks = 0;
    private static int wrong = 0;

    private Check() {
    }

    /** The call answers this. */
    static void answers(long due, Call call, String what) {
        compare(Long.toString(due), outcome(call), what);
    }

    /** The call throws just this exception, not a class below it. */
    static void refuses(Class<? extends RuntimeException> due, Call call, String what) {
        compare("throws." + due.getSimpleName(), outcome(call), what);
    }

    static void holds(boolean statement, String what) {
        compare("true", Boolean.toString(statement), what);
    }

    /** The answer of a call as a text, or the name of what it throws. */
    static String outcome(Call call) {
        try {
            return Long.toString(call.run());
        } catch (RuntimeException | Error e) {
            return "throws." + e.getClass().getSimpleName();
        }
    }

    static void compare(String due, String got, String what) {
        checks++;
        if (!due.equals(got)) {
            wrong++;
            System.out.println(what + " answered " + got + ", due is " + due);
        }
    }

    /** Ends the test, with exit code 1 if something was wrong. */
    static void end() {
        System.out.println(checks + " checks, " + wrong + " wrong");
        if (wrong != 0 || checks == 0) {
            System.exit(1);
        }
    }
}
