/** What the tests share: to compare answers, to expect exceptions, and to end with an exit code. */
abstract class Due {
    static final Class<?> ARGUMENT = IllegalArgumentException.class;
    static final Class<?> STATE = IllegalStateException.class;
    static final Class<?> UNSUPPORTED = UnsupportedOperationException.class;
    static final Class<?> BOUNDS = IndexOutOfBoundsException.class;

    private static int wrong = 0;
    private static String words = "";

    /** Runs a test that stands for these words of the document; what is wrong is told with them. */
    static void sentence(String said, Runnable test) {
        words = "'" + said + "': ";
        test.run();
        words = "";
    }

    private static void tellWrong(String what) {
        wrong++;
        System.out.println(words + what);
    }

    static void due(String what, long want, long got) {
        if (want != got) {
            tellWrong(what + " answered " + got + ", due is " + want);
        }
    }

    static void due(String what, boolean want, boolean got) {
        due(what, want ? 1 : 0, got ? 1 : 0);
    }

    static void due(String what, String want, String got) {
        if (!want.equals(got)) {
            tellWrong(what + " is " + got + ", due is " + want);
        }
    }

    static void refused(String what, Class<?> want, Runnable call) {
        Class<?> got = null;
        try {
            call.run();
        } catch (RuntimeException e) {
            got = e.getClass();
        }
        if (got != want) {
            tellWrong(what + " throws " + got + ", due is " + want);
        }
    }

    /** To be called at the end of every main. */
    static void close() {
        if (wrong != 0) {
            System.exit(1);
        }
    }
}
