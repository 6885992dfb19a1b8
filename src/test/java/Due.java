import java.util.NoSuchElementException;

/** Counts the answers that are not the ones that are due, and prints each. */
final class Due {
    interface Call {
        long answer();
    }

    private static int lookedAt = 0;
    private static int wrong = 0;
    private static String heading = "";

    private Due() {
    }

    /** What stands ahead of each wrong answer from now on. */
    static void head(String words) {
        heading = words;
    }

    static void is(String call, long got, long want) {
        lookedAt++;
        if (got != want) {
            report(call + " answered " + got + ", due is " + want);
        }
    }

    static void report(String fault) {
        wrong++;
        System.out.println(heading + fault);
    }

    static void is(String call, boolean got, boolean want) {
        is(call, got ? 1 : 0, want ? 1 : 0);
    }

    static void is(String call, String got, String want) {
        lookedAt++;
        if (!got.equals(want)) {
            report(call + " answered '" + got + "', due is '" + want + "'");
        }
    }

    static void noSuchElement(String call, Call made) {
        throwsOne(call, made, NoSuchElementException.class);
    }

    static void illegalArgument(String call, Call made) {
        throwsOne(call, made, IllegalArgumentException.class);
    }

    private static void throwsOne(String call, Call made, Class<? extends RuntimeException> due) {
        lookedAt++;
        String got;
        try {
            got = "answered " + made.answer();
        } catch (RuntimeException e) {
            if (e.getClass() == due) {
                return;
            }
            got = "threw " + e;
        }
        report(call + " " + got + ", due is " + due.getSimpleName());
    }

    /** How many answers were looked at. */
    static int lookedAt() {
        return lookedAt;
    }

    static int wrong() {
        return wrong;
    }

    /** Ends the test's run: exit code 1 if an answer was wrong. */
    static void finish() {
        System.out.println(wrong == 0 ? "all answers are as due" : wrong + " answers are not as due");
        if (wrong != 0) {
            System.exit(1);
        }
    }
}
