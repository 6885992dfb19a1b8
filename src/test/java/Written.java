/** Puts texts on a book's tape. */
final class Written {
    private Written() {
    }

    /** Feeds the words, filled up with blanks to whole twenties, and answers how many bytes they have. */
    static int feed(ArmsBook book, String words) {
        for (int i = 0; i < words.length(); i += 20) {
            book.feed(four(words, i), four(words, i + 4), four(words, i + 8), four(words, i + 12), four(words, i + 16));
        }
        return words.length();
    }

    private static int four(String words, int from) {
        int number = 0;
        for (int i = from; i < from + 4; i++) {
            number = number << 8 | (i < words.length() ? words.charAt(i) & 255 : ' ');
        }
        return number;
    }

    static int text(ArmsBook book, String words, int year) {
        return book.text(feed(book, words), year);
    }
}
