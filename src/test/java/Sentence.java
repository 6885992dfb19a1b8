import java.util.ArrayList;
import java.util.List;

/** A sentence of the document, or a part of one that names a boundary, with a test of its own. */
final class Sentence {
    private static final List<String> TESTED = new ArrayList<>();

    private Sentence() {
    }

    static void holds(String words, Runnable test) {
        TESTED.add(words);
        Due.head("\"" + words + "\": ");
        int before = Due.lookedAt();
        try {
            test.run();
            if (Due.lookedAt() == before) {
                Due.report("nothing was looked at");
            }
        } catch (RuntimeException e) {
            Due.report("the test ended with " + e);
        }
        Due.head("");
    }

    static List<String> tested() {
        return TESTED;
    }
}
