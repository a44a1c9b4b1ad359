/** Counts the answers that are not as due, and ends the program as the tests' form asks. */
final class Check {
    private static int wrong = 0;
    private static int looked = 0;
    private static String about = "";

    private Check() {
    }

    /** Every answer from now on that is not as due is told with this in front of it. */
    static void about(String what) {
        about = what;
    }

    static int looked() {
        return looked;
    }

    static int wrong() {
        return wrong;
    }

    static void due(String call, long got, long want) {
        looked++;
        if (got != want) {
            fail(call, Long.toString(got), Long.toString(want));
        }
    }

    static void due(String call, boolean got, boolean want) {
        looked++;
        if (got != want) {
            fail(call, Boolean.toString(got), Boolean.toString(want));
        }
    }

    static void due(String call, String got, String want) {
        looked++;
        if (!got.equals(want)) {
            fail(call, got, want);
        }
    }

    static void refused(String call, Class<? extends RuntimeException> kind, Runnable run) {
        due(call + " throws", thrown(run), kind.getName());
    }

    static void taken(String call, Runnable run) {
        due(call + " throws", thrown(run), "nothing");
    }

    static void fail(String call, String got, String want) {
        wrong++;
        System.out.println(about + call + " answered " + got + ", due is " + want);
    }

    static void end() {
        System.out.println(looked + " answers, " + wrong + " of them not as due");
        if (wrong != 0) {
            System.exit(1);
        }
    }

    private static String thrown(Runnable run) {
        try {
            run.run();
        } catch (RuntimeException e) {
            return e.getClass().getName();
        }
        return "nothing";
    }
}
