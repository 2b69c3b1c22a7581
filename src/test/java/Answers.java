/** Compares answers with those that are due, and counts the wrong ones. */
final class Answers {
    /** A call whose answer, or whose exception, is compared. */
    interface Call {
        long answer();
    }

    private static String test = "";
    private static int compared = 0;
    private static int wrong = 0;

    private Answers() {
    }

    /** Names the test that compares from now on. */
    static void begin(String name) {
        test = name;
    }

    static int compared() {
        return compared;
    }

    static int wrong() {
        return wrong;
    }

    static void due(String what, long got, long want) {
        compare(what, Long.toString(got), Long.toString(want));
    }

    static void due(String what, boolean got, boolean want) {
        compare(what, Boolean.toString(got), Boolean.toString(want));
    }

    static void due(String what, String got, String want) {
        compare(what, got, want);
    }

    /** The exception is to be of this class itself: a class below it is what the machine throws. */
    static void dueThrow(String what, Class<? extends RuntimeException> want, Call call) {
        compare(what, outcome(call), "throws " + want.getName());
    }

    /** The answer of a call, or the exception that it throws, as a text; what the library throws is told apart. */
    static String outcome(Call call) {
        try {
            return Long.toString(call.answer());
        } catch (RuntimeException e) {
            StackTraceElement[] trace = e.getStackTrace();
            boolean isByLibrary = trace.length == 0 || trace[0].getClassName().startsWith("java.")
                    || trace[0].getClassName().startsWith("jdk.");
            return "throws " + e.getClass().getName() + (isByLibrary ? " in the library" : "");
        }
    }

    /** Ends the test: with exit code 1 if an answer was wrong. */
    static void end() {
        System.out.println(compared + " answers compared, " + wrong + " wrong");
        if (wrong != 0 || compared == 0) {
            System.exit(1);
        }
    }

    private static void compare(String what, String got, String want) {
        compared++;
        if (!got.equals(want)) {
            wrong++;
            System.out.println((test.isEmpty() ? "" : test + ": ") + what + " answered " + got + ", due is " + want);
        }
    }
}
