import java.util.Arrays;

/**
 * Promises 1 to 19: each sentence of the document that names a boundary (too small, too large, empty,
 * full, a wrap-around, a refused call) has a test of its own, named by the sentence; and no sentence
 * of the document is left out.
 */
public final class SentencesTest {
    /** These name no boundary: how the grammar is written. */
    private static final String[] OTHERS = {
        "In quotes is what stands there, [ ] perhaps, * any number of times, | one of some:"
    };

    private SentencesTest() {
    }

    public static void main(String[] args) {
        Sentence.holds("An object is used for at most 512 calls after it has been made; what later calls answer is free.",
                SentencesTest::lastCall);
        PeopleSentences.test();
        BearingSentences.test();
        QuarterSentences.test();
        OfficeSentences.test();
        CopiesSentences.test();
        Document document = Document.read();
        if (document == null) {
            System.out.println("no document here: the sentences are not compared with it");
        } else {
            document.quote(Sentence.tested());
            document.quote(Arrays.asList(OTHERS));
            document.isQuotedWhole();
        }
        System.out.println(Sentence.tested().size() + " sentences");
        Due.finish();
    }

    /** A book as full as can be, by 382 calls; all that follow are answered, to the 512th. */
    private static void lastCall() {
        ArmsBook book = new ArmsBook();
        int calls = 0;
        for (int i = 0; i < 60; i++) {
            Due.is("person " + i, book.person(i % 2 == 1, 1000 + 20 * (i / 2), 1020 + 20 * (i / 2)), i);
            calls++;
        }
        for (int child = 2; child < 60; child++) {
            int father = child / 2 * 2 - 2;
            Due.is("father of " + child, book.parent(child, 0, father, 9), true);
            Due.is("mother of " + child, book.parent(child, 1, father + 1, 9), true);
            calls += 2;
        }
        for (int i = 0; i < 40; i++) {
            Due.is("grant " + i, book.grant(i, i + 1, 1000), i);
            Due.is("copy " + i, book.copy(1000 + i, i), i);
            calls += 2;
        }
        for (int i = 0; i < 6; i++) {
            for (int k = 1; k <= 20; k++) {
                int feed = k == 1 ? book.feed(0x66656520, 0x31202020, 0x20202020, 0x20202020, 0x2020203B)
                        : book.feed(0x20202020, 0x20202020, 0x20202020, 0x20202020, 0x20202020);
                Due.is("feed " + k, feed, 20 * k);
                calls++;
            }
            Due.is("text " + i, book.text(400, 1000), i);
            calls++;
        }
        while (calls < 512) {
            calls++;
            look(book, calls);
        }
        Due.is("all calls", calls, 512);
    }

    private static void look(ArmsBook book, int call) {
        String name = "call " + call;
        switch (call % 8) {
            case 0:
                Due.is(name + ", quarters", book.quarter(59, 2000, ArmsBook.NONE), 12);
                break;
            case 1:
                Due.is(name + ", fee", book.fee(59, 2000), 1);
                break;
            case 2:
                Due.is(name + ", claim", book.claim(59, 39, 1600), 0);
                break;
            case 3:
                Due.is(name + ", steps", book.bears(59, 2000, 2), 10);
                break;
            case 4:
                Due.is(name + ", mark", book.mark(59, 2000, 9), 1);
                break;
            case 5:
                Due.is(name + ", common", book.common(58, 59), 57);
                break;
            case 6:
                Due.is(name + ", original", book.of(39, 3), 0);
                break;
            default:
                Due.is(name + ", person", book.person(false, 1500, 1560), ArmsBook.NONE);
                break;
        }
    }
}
