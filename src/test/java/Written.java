/** Puts texts on a book's tape, and looks at how they are taken. */
final class Written {
    private Written() {
    }

    /** Feeds the words, filled up with blanks to whole twenties, and answers how many bytes they have. */
    static int feed(ArmsBook book, String words) {
        for (int i = 0; i < words.length(); i += 20) {
            book.feed(four(words, i), four(words, i + 4), four(words, i + 8), four(words, i + 12), four(words, i + 16));
        }
        return words.length();
    }

    private static int four(String words, int from) {
        int number = 0;
        for (int i = from; i < from + 4; i++) {
            number = number << 8 | (i < words.length() ? words.charAt(i) & 255 : ' ');
        }
        return number;
    }

    static int text(ArmsBook book, String words, int year) {
        return book.text(feed(book, words), year);
    }

    static void faulty(String words, int fault, int place) {
        ArmsBook book = new ArmsBook();
        Due.is("'" + words + "'", text(book, words, 1500), -1 - fault);
        Due.is("fault() of '" + words + "'", book.fault(), place);
        Due.is("texts behind '" + words + "'", book.count(2), 0);
    }

    static void faultless(String words) {
        ArmsBook book = new ArmsBook();
        Due.is("'" + words + "'", text(book, words, 1500), 0);
        Due.is("fault() of '" + words + "'", book.fault(), ArmsBook.NONE);
        Due.is("texts behind '" + words + "'", book.count(2), 1);
    }

    /** The value of an expression in 1540, for a root without steps. */
    static void worth(String expression, int value) {
        worthIn(1540, expression, value);
    }

    static void worthIn(int year, String expression, int value) {
        ArmsBook book = new ArmsBook();
        book.person(false, 1500, 1560);
        book.grant(0, 7, 1500);
        Due.is("'" + expression + "'", text(book, "fee " + expression + ";", 1500), 0);
        Due.is("'" + expression + "'", book.fee(0, year), value);
    }
}
