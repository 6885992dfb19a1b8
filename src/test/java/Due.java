import java.util.NoSuchElementException;

/** Counts the answers that are not the ones that are due, and prints each. */
final class Due {
    interface Call {
        long answer();
    }

    private static int wrong = 0;

    private Due() {
    }

    static void is(String call, long got, long want) {
        if (got != want) {
            wrong++;
            System.out.println(call + " answered " + got + ", due is " + want);
        }
    }

    static void is(String call, boolean got, boolean want) {
        is(call, got ? 1 : 0, want ? 1 : 0);
    }

    static void noSuchElement(String call, Call made) {
        throwsOne(call, made, NoSuchElementException.class);
    }

    static void illegalArgument(String call, Call made) {
        throwsOne(call, made, IllegalArgumentException.class);
    }

    private static void throwsOne(String call, Call made, Class<? extends RuntimeException> due) {
        String got;
        try {
            got = "answered " + made.answer();
        } catch (RuntimeException e) {
            if (e.getClass() == due) {
                return;
            }
            got = "threw " + e;
        }
        wrong++;
        System.out.println(call + " " + got + ", due is " + due.getSimpleName());
    }

    static int wrong() {
        return wrong;
    }

    /** Ends the test's run: exit code 1 if an answer was wrong. */
    static void finish() {
        System.out.println(wrong == 0 ? "all answers are as due" : wrong + " answers are not as due");
        if (wrong != 0) {
            System.exit(1);
        }
    }
}
