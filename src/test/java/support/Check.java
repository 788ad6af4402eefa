/** Counts the answers that are not due; a test ends with end(). */
final class Check {
    interface Call {
        Object run();
    }

    private static int wrong = 0;
    private static int made = 0;

    private Check() {
    }

    static void same(String what, long due, long got) {
        made++;
        if (due != got) {
            report(what + " answered " + got + ", due is " + due);
        }
    }

    static void same(String what, boolean due, boolean got) {
        same(what, due ? 1 : 0, got ? 1 : 0);
    }

    static void same(String what, String due, String got) {
        made++;
        if (!due.equals(got)) {
            report(what + " answered " + got + ", due is " + due);
        }
    }

    static void sameNumber(String what, double due, double got) {
        made++;
        if (due != got) {
            report(what + " answered " + got + ", due is " + due);
        }
    }

    static void noIndex(String what, Call call) {
        same(what, "throws.IndexOutOfBoundsException", answer(call));
    }

    static void noArgument(String what, Call call) {
        same(what, "throws.IllegalArgumentException", answer(call));
    }

    /** The answer of a call as a text; an exception by its exact class. */
    static String answer(Call call) {
        try {
            return String.valueOf(call.run());
        } catch (RuntimeException e) {
            return "throws." + e.getClass().getSimpleName();
        }
    }

    private static void report(String text) {
        wrong++;
        if (wrong <= 50) {
            System.out.println(text);
        }
    }

    static boolean hasFailed() {
        return wrong > 0;
    }

    static void end() {
        System.out.println(made + " answers looked at, " + wrong + " not as due");
        if (wrong > 0 || made == 0) {
            System.exit(1);
        }
    }
}
