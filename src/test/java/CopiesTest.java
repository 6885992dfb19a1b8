/** Promises 17 (copy) and 18 (of). */
public final class CopiesTest {
    public static void main(String[] args) {
        copy();
        copyLimit();
        fewestPlaces();
        likeOnes();
        fourPlaces();
        drift();
        wrongOf();
        Due.finish();
    }

    private static void copy() {
        ArmsBook book = new ArmsBook();
        Due.is("year 999", book.copy(999, 0), -1);
        Due.is("year 2001", book.copy(2001, 0), -1);
        Due.is("none came", book.count(3), 0);
        Due.is("year 1000", book.copy(1000, -1), 0);
        Due.is("year 2000", book.copy(2000, Integer.MIN_VALUE), 1);
    }

    private static void copyLimit() {
        ArmsBook book = new ArmsBook();
        for (int i = 0; i < 40; i++) {
            Due.is("copy " + i, book.copy(1500 + i, 5), i);
        }
        Due.is("copy 40", book.copy(1600, 5), -1);
        Due.is("the last was taken from the one ahead", book.of(39, 0), 38);
        Due.is("led back to the first", book.of(39, 3), 0);
        Due.is("no drift", book.of(39, 2), 0);
    }

    private static void fewestPlaces() {
        ArmsBook book = new ArmsBook();
        book.copy(1500, 0x12345678);
        book.copy(1510, 0x1234567F);
        book.copy(1520, 0x12345688);
        Due.is("one place from the first, two from the second", book.of(2, 0), 0);
        Due.is("its places", book.of(2, 1), 1);
        book.copy(1530, 0x92345688);
        Due.is("the highest place counts", book.of(3, 0), 2);
        Due.is("its places", book.of(3, 1), 1);
        Due.is("taken from the first", book.of(0, 4), 2);
        Due.is("taken from the last", book.of(3, 4), 0);
        book.copy(1505, 0x12345688);
        Due.is("one told later, of an earlier year", book.of(2, 0), 4);
        Due.is("no place differs", book.of(2, 1), 0);
    }

    private static void likeOnes() {
        ArmsBook book = new ArmsBook();
        book.copy(1510, 0x10000000);
        book.copy(1520, 0x01000000);
        book.copy(1520, 0x00100000);
        book.copy(1530, 0);
        Due.is("the latest year, then the least number", book.of(3, 0), 1);
        book.copy(1520, 0);
        Due.is("of one year none is taken from another", book.of(4, 0), 0);
        Due.is("fewer places ahead of all", book.of(3, 0), 4);
        book.copy(1500, 0);
        Due.is("fewer places ahead of the later year", book.of(4, 0), 5);
    }

    private static void fourPlaces() {
        ArmsBook book = new ArmsBook();
        book.copy(1500, 0);
        book.copy(1510, 0x11111000);
        Due.is("five places: an original", book.of(1, 0), -1);
        Due.is("of no places", book.of(1, 1), 0);
        Due.is("of no drift", book.of(1, 2), 0);
        Due.is("led to itself", book.of(1, 3), 1);
        book.copy(1505, 0xF00F00FF);
        Due.is("four places: taken", book.of(2, 0), 0);
        Due.is("its places", book.of(2, 1), 4);
        Due.is("the first has none ahead", book.of(0, 0), -1);
    }

    private static void drift() {
        ArmsBook book = new ArmsBook();
        book.copy(1530, 0x11111110);
        book.copy(1520, 0x11110000);
        book.copy(1510, 0x11000000);
        book.copy(1500, 0);
        int[] drifts = {7, 4, 2, 0};
        for (int c = 0; c < 4; c++) {
            Due.is("drift of " + c, book.of(c, 2), drifts[c]);
            Due.is("original of " + c, book.of(c, 3), 3);
            Due.is("taken from " + c, book.of(c, 4), c == 0 ? 0 : 1);
        }
    }

    private static void wrongOf() {
        ArmsBook book = new ArmsBook();
        book.copy(1500, 0);
        Due.noSuchElement("of(1, 0)", () -> book.of(1, 0));
        Due.noSuchElement("of(-1, 0)", () -> book.of(-1, 0));
        Due.noSuchElement("of(0, 5)", () -> book.of(0, 5));
        Due.noSuchElement("of(0, -1)", () -> book.of(0, -1));
    }
}
