/** Counts and prints the answers that are not the ones that are due. */
final class Checks {
    /** A call that may throw; answers a number. */
    interface Call {
        long run();
    }

    /** A call that may throw; answers nothing. */
    interface Act {
        void run();
    }

    static final String OUTSIDE = "throws.IndexOutOfBoundsException";
    static final String ILLEGAL = "throws.IllegalArgumentException";

    private static int checked = 0;
    private static int wrong = 0;

    private Checks() {
    }

    static void due(String what, String got, String want) {
        checked++;
        if (!got.equals(want)) {
            wrong++;
            System.out.println(what + " answered " + got + ", due is " + want);
        }
    }

    static void due(String what, long got, long want) {
        due(what, Long.toString(got), Long.toString(want));
    }

    /** The answer as a text; the exact class of an exception, so that the machine's own show. */
    static String answer(Call call) {
        try {
            return Long.toString(call.run());
        } catch (RuntimeException e) {
            return "throws." + e.getClass().getSimpleName();
        }
    }

    static String answer(Act act) {
        try {
            act.run();
            return "done";
        } catch (RuntimeException e) {
            return "throws." + e.getClass().getSimpleName();
        }
    }

    static void refused(String what, Act act, String want) {
        due(what, answer(act), want);
    }

    static void end() {
        if (checked == 0) {
            System.out.println("nothing was checked");
            System.exit(1);
        }
        System.out.println(wrong == 0 ? checked + " answers are as due" : wrong + " answers are not as due");
        if (wrong != 0) {
            System.exit(1);
        }
    }
}
