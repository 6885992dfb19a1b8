import java.io.IOException;
import java.nio.file.Files;
import java.nio.file.Path;
import java.util.Arrays;
import java.util.List;

/** The document's words, as far as they promise something; which of them were quoted is kept. */
final class Document {
    private static final Path PLACE = Path.of("../shared/DOC.md");

    private final String words;
    private final boolean[] quoted;

    private Document(String words) {
        this.words = words;
        this.quoted = new boolean[words.length()];
    }

    /** The terms and the promises without headings, signatures and marks, or null where there is no document. */
    static Document read() {
        if (!Files.exists(PLACE)) {
            return null;
        }
        try {
            String all = Files.readString(PLACE);
            int use = all.indexOf("An object is used");
            int face = all.indexOf("## The public face");
            int terms = all.indexOf("## Terms");
            int end = all.indexOf("## Not promised");
            if (use < 0 || face < use || terms < face || end < terms) {
                throw new IllegalStateException("the document has other headings");
            }
            return new Document(plain(all.substring(use, face) + all.substring(terms, end)));
        } catch (IOException e) {
            throw new IllegalStateException("the document can't be read", e);
        }
    }

    private static String plain(String text) {
        return text.replaceAll("(?m)^#.*$", "")
                .replaceAll("(?m)^```.*$", "")
                .replaceAll("==== \\d+\\.", "")
                .replaceAll("`(int|boolean|ArmsBook)\\b[^`]*`:", "")
                .replaceAll("\\s+", " ");
    }

    /** Each of the sentences stands in the document, once. */
    void quote(List<String> sentences) {
        for (String sentence : sentences) {
            int at = words.indexOf(sentence);
            Due.is("\"" + sentence + "\" stands in the document", at >= 0, true);
            if (at >= 0) {
                Due.is("\"" + sentence + "\" stands there once", words.indexOf(sentence, at + 1), -1);
                Arrays.fill(quoted, at, at + sentence.length(), true);
            }
        }
    }

    /** No words are left that nobody quoted. */
    void isQuotedWhole() {
        StringBuilder rest = new StringBuilder();
        for (int i = 0; i < quoted.length; i++) {
            rest.append(quoted[i] ? ' ' : words.charAt(i));
        }
        String left = rest.toString().replaceAll("\\s+", " ").trim();
        Due.is("the document's words without a test", left, "");
    }
}
