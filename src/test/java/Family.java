/** A book whose people are told in short; what can't be told ends the test. */
final class Family {
    static final int FATHER = 0;
    static final int MOTHER = 1;

    final ArmsBook book = new ArmsBook();

    int male(int born, int died) {
        return told(book.person(false, born, died));
    }

    int female(int born, int died) {
        return told(book.person(true, born, died));
    }

    int son(int father, int born, int died) {
        int child = male(born, died);
        father(child, father);
        return child;
    }

    int daughter(int father, int born, int died) {
        int child = female(born, died);
        father(child, father);
        return child;
    }

    void father(int child, int father) {
        father(child, father, 9);
    }

    void father(int child, int father, int grade) {
        told(book.parent(child, FATHER, father, grade) ? 0 : ArmsBook.NONE);
    }

    void mother(int child, int mother) {
        told(book.parent(child, MOTHER, mother, 9) ? 0 : ArmsBook.NONE);
    }

    void grant(int person, int arms, int year) {
        told(book.grant(person, arms, year));
    }

    void text(String words, int year) {
        told(Written.text(book, words, year));
    }

    private static int told(int answer) {
        if (answer < 0) {
            throw new IllegalStateException("the book took not what the test told");
        }
        return answer;
    }

    /** The quarters of one in a year, with blanks between them. */
    String quarters(int person, int year) {
        StringBuilder row = new StringBuilder();
        int size = book.quarter(person, year, ArmsBook.NONE);
        for (int i = 0; i < size; i++) {
            row.append(i == 0 ? "" : " ").append(book.quarter(person, year, i));
        }
        return row.toString();
    }

    /** The marks of one in a year, as many as it has steps, with blanks between them. */
    String marks(int person, int year) {
        StringBuilder row = new StringBuilder();
        int steps = book.bears(person, year, 2);
        for (int i = 0; i < steps; i++) {
            row.append(i == 0 ? "" : " ").append(book.mark(person, year, i));
        }
        return row.toString();
    }
}
