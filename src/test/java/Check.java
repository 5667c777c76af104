/** What the tests of the project share: each check that fails is printed, and the test ends with exit code 1. */
final class Check {
    private static int tests = 0;
    private static int checks = 0;
    private static int wrong = 0;
    private static String current = "";

    private Check() {
    }

    /** A test of its own, under its own name: what it throws unasked is told, and hides no test behind it. */
    static void test(String name, Runnable body) {
        tests++;
        current = name + ": ";
        try {
            body.run();
        } catch (RuntimeException e) {
            fail("threw " + e);
        }
        current = "";
    }

    static void same(String call, long got, long due) {
        checks++;
        if (got != due) {
            fail(call + " answered " + got + ", due is " + due);
        }
    }

    static void same(String call, double got, double due) {
        checks++;
        if (got != due) {
            fail(call + " answered " + got + ", due is " + due);
        }
    }

    /** The very class is asked for: the machine's own exceptions are subclasses of those of the document. */
    static void refused(EelPermits lake, String call, Class<? extends RuntimeException> due, Runnable run) {
        checks++;
        long before = lake.digest();
        try {
            run.run();
            fail(call + " threw nothing, due is " + due.getSimpleName());
        } catch (RuntimeException e) {
            if (e.getClass() != due) {
                fail(call + " threw " + e.getClass().getSimpleName() + ", due is " + due.getSimpleName());
            }
        }
        if (lake.digest() != before) {
            fail(call + " changed something");
        }
    }

    static void badIndex(EelPermits lake, String call, Runnable run) {
        refused(lake, call, IndexOutOfBoundsException.class, run);
    }

    static void badArgument(EelPermits lake, String call, Runnable run) {
        refused(lake, call, IllegalArgumentException.class, run);
    }

    static void badState(EelPermits lake, String call, Runnable run) {
        refused(lake, call, IllegalStateException.class, run);
    }

    static void fail(String what) {
        wrong++;
        if (wrong <= 20) {
            System.out.println("  " + current + what);
        }
    }

    static void end() {
        System.out.println("  " + (tests > 0 ? tests + " tests, " : "") + checks + " checks, " + wrong + " wrong");
        if (wrong > 0 || checks == 0) {
            System.exit(1);
        }
    }
}
