/** Counts the answers that are not as due, and ends a test with exit code 1 if there was one. */
final class Check {
    private static int wrong = 0;
    private static int checks = 0;
    /** What the test that runs now begins its complaints with. */
    private static String words = "";

    private Check() {
    }

    static void same(String what, long got, long due) {
        that(what + " answered " + got + ", due is " + due, got == due);
    }

    static void same(String what, boolean got, boolean due) {
        that(what + " answered " + got + ", due is " + due, got == due);
    }

    static void that(String complaint, boolean holds) {
        checks++;
        if (!holds) {
            wrong++;
            System.out.println(words + complaint);
        }
    }

    /** A test of its own for some words of the document: whatever it throws, those behind it run. */
    static void test(String wordsTested, Runnable test) {
        words = wordsTested + " | ";
        int before = checks;
        try {
            test.run();
        } catch (RuntimeException e) {
            that("threw " + e + " at " + e.getStackTrace()[0], false);
        }
        that("checked nothing", checks > before);
        words = "";
    }

    /** The exception's class must be the very one, no class under it. */
    static void thrown(String what, Class<? extends RuntimeException> due, Runnable call) {
        Class<?> got = null;
        try {
            call.run();
        } catch (RuntimeException e) {
            got = e.getClass();
        }
        that(what + " threw " + got + ", due is " + due, got == due);
    }

    static void state(String what, Runnable call) {
        thrown(what, IllegalStateException.class, call);
    }

    static void argument(String what, Runnable call) {
        thrown(what, IllegalArgumentException.class, call);
    }

    static void unsupported(String what, Runnable call) {
        thrown(what, UnsupportedOperationException.class, call);
    }

    static void index(String what, Runnable call) {
        thrown(what, IndexOutOfBoundsException.class, call);
    }

    static void end() {
        System.out.println(checks + " checks, " + wrong + " wrong");
        if (wrong != 0 || checks == 0) {
            System.exit(1);
        }
    }
}
