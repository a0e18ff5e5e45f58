import java.util.Objects;

/** Counts and prints what is not as due; each test ends with finish(). */
final class Expect {
    private static int wrong = 0;
    private static int checks = 0;
    private static String place = "";

    private Expect() {
    }

    /** A call that may throw. */
    interface Call {
        void call();
    }

    static void promise(int number, String text) {
        place = "promise " + number + " (" + text + ")";
    }

    /**
     * Runs the test of sentences of the document: "P7 .." stands in promise 7, "T .." before the
     * promises. What stops one test does not stop the next one.
     */
    static void holds(Call test, String... sentences) {
        place = String.join(" / ", sentences);
        int before = checks;
        try {
            test.call();
        } catch (RuntimeException | AssertionError e) {
            report("stopped by " + e);
        }
        if (checks == before) {
            report("nothing was checked");
        }
    }

    static void due(Object want, Object got) {
        checks++;
        if (!Objects.equals(want, got)) {
            report("answered " + got + ", due is " + want);
        }
    }

    static void throwing(Class<? extends RuntimeException> want, Call call) {
        checks++;
        String got = outcome(call);
        if (!want.getSimpleName().equals(got)) {
            report("ended with " + got + ", due is " + want.getSimpleName());
        }
    }

    private static String outcome(Call call) {
        try {
            call.call();
            return "no exception";
        } catch (RuntimeException e) {
            return e.getClass().getSimpleName();
        }
    }

    static void report(String what) {
        wrong++;
        System.out.println(place + ", line " + lineOfTest() + ": " + what);
    }

    private static int lineOfTest() {
        for (StackTraceElement element : new Throwable().getStackTrace()) {
            if (!element.getClassName().startsWith("Expect")) {
                return element.getLineNumber();
            }
        }
        return 0;
    }

    static void finish() {
        System.out.println(checks + " checks, " + wrong + " wrong");
        if (wrong != 0 || checks == 0) {
            System.exit(1);
        }
    }
}
