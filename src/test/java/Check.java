/** Compares answers with those that are due, tells each that is not, and ends the test. */
final class Check {
    interface Call {
        long answer();
    }

    interface Action {
        void run();
    }

    private static int wrong = 0;
    private static int made = 0;

    private Check() {
    }

    static void due(String what, long got, long want) {
        made++;
        if (got != want) {
            wrong++;
            System.out.println(what + " answered " + got + ", due is " + want);
        }
    }

    static void due(String what, boolean got, boolean want) {
        due(what, got ? 1 : 0, want ? 1 : 0);
    }

    /** The call has to throw exactly this exception. */
    static void refused(String what, Class<? extends RuntimeException> want, Action call) {
        made++;
        String got = "nothing";
        try {
            call.run();
        } catch (RuntimeException e) {
            if (e.getClass() == want) {
                return;
            }
            got = e.getClass().getSimpleName();
        }
        wrong++;
        System.out.println(what + " threw " + got + ", due is " + want.getSimpleName());
    }

    static void noSuchProcess(String what, Action call) {
        refused(what, IndexOutOfBoundsException.class, call);
    }

    static void outOfRange(String what, Action call) {
        refused(what, IllegalArgumentException.class, call);
    }

    static void notNow(String what, Action call) {
        refused(what, IllegalStateException.class, call);
    }

    static void finish() {
        System.out.println(made + " checks, " + wrong + " wrong");
        if (wrong != 0 || made == 0) {
            System.exit(1);
        }
    }
}
