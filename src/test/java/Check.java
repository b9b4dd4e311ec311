/** Counts the answers of one test that are not the ones that are due. */
final class Check {
    private static int wrong = 0;
    private static int asked = 0;

    interface Call {
        long ask();
    }

    private Check() {
    }

    static void due(String call, long got, long want) {
        asked++;
        if (got != want) {
            wrong++;
            System.out.println(call + " answered " + got + ", due is " + want);
        }
    }

    /** What the machine throws by itself has a text, or is a subclass; what the program throws has none. */
    static boolean isOfTheMachine(RuntimeException e) {
        return e.getMessage() != null;
    }

    static void same(String call, String got, String want) {
        asked++;
        if (!got.equals(want)) {
            wrong++;
            System.out.println(call + " answered " + got + ", due is " + want);
        }
    }

    /** The very class is due: a subclass tells of the machine's own throwing. */
    static void dueThrow(String call, Class<? extends RuntimeException> want, Call asks) {
        asked++;
        String got;
        try {
            got = "" + asks.ask();
        } catch (RuntimeException e) {
            if (e.getClass() == want && !isOfTheMachine(e)) {
                return;
            }
            got = e.toString();
        }
        wrong++;
        System.out.println(call + " answered " + got + ", due is throws." + want.getSimpleName());
    }

    static int wrong() {
        return wrong;
    }

    static void end() {
        System.out.println(wrong == 0 ? asked + " answers are as due" : wrong + " of " + asked + " answers are wrong");
        if (wrong != 0) {
            System.exit(1);
        }
    }
}
