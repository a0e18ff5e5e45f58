import java.util.Objects;

/** Counts and prints what is not as due; each test ends with finish(). */
final class Expect {
    private static int wrong = 0;
    private static int checks = 0;
    private static String promise = "";

    private Expect() {
    }

    /** A call that may throw. */
    interface Call {
        void call();
    }

    static void promise(int number, String text) {
        promise = number + " (" + text + ")";
    }

    static void due(Object want, Object got) {
        checks++;
        if (!Objects.equals(want, got)) {
            report("answered " + got + ", due is " + want);
        }
    }

    static void throwing(Class<? extends RuntimeException> want, Call call) {
        checks++;
        String got = outcome(call);
        if (!want.getSimpleName().equals(got)) {
            report("ended with " + got + ", due is " + want.getSimpleName());
        }
    }

    private static String outcome(Call call) {
        try {
            call.call();
            return "no exception";
        } catch (RuntimeException e) {
            return e.getClass().getSimpleName();
        }
    }

    static void report(String what) {
        wrong++;
        StackTraceElement[] stack = new Throwable().getStackTrace();
        StackTraceElement place = stack[Math.min(2, stack.length - 1)];
        System.out.println("promise " + promise + ", line " + place.getLineNumber() + ": " + what);
    }

    static void finish() {
        System.out.println(checks + " checks, " + wrong + " wrong");
        if (wrong != 0 || checks == 0) {
            System.exit(1);
        }
    }
}
