/** The document's sentences on painted copies. */
final class CopiesSentences {
    private static final int NONE = ArmsBook.NONE;
    private static final int LEAST = Integer.MIN_VALUE;
    private static final int MOST = Integer.MAX_VALUE;

    private CopiesSentences() {
    }

    static void test() {
        Sentence.holds("COPIES, from 0 on, at most 40:", CopiesSentences::atMostForty);
        Sentence.holds("a YEAR and a ROW of 8 signs (0 to 15; 4 bits each in an int, the first highest).",
                CopiesSentences::eightSigns);
        Sentence.holds("A COPY was TAKEN from that one of an earlier YEAR", CopiesSentences::earlierYear);
        Sentence.holds("which has the fewest places that differ,", CopiesSentences::fewestPlaces);
        Sentence.holds("of like ones the latest YEAR, then the least number;", CopiesSentences::likeOnes);
        Sentence.holds("it is an ORIGINAL, if there is none, or more than 4 differ.", CopiesSentences::original);
        Sentence.holds("DRIFT: places that differ from what it was TAKEN from, and that one's DRIFT; 0 of an ORIGINAL.",
                CopiesSentences::drift);
        Sentence.holds("A COPY: its number.", CopiesSentences::numbers);
        Sentence.holds("NONE: there are 40, or no such YEAR.", CopiesSentences::refusedCopy);
        Sentence.holds("Of a COPY: 0 what it was TAKEN from (NONE of an ORIGINAL), 1 places that differ (0), 2 DRIFT, "
                + "3 the ORIGINAL that it is led to, 4 how many were TAKEN from it.", CopiesSentences::of);
        Sentence.holds("NoSuchElementException: no such COPY, another what.", CopiesSentences::wrongOf);
    }

    private static void atMostForty() {
        ArmsBook book = new ArmsBook();
        for (int i = 0; i < 40; i++) {
            Due.is("copy " + i, book.copy(1500 + i, 0), i);
        }
        Due.is("one more", book.copy(1600, 0), NONE);
        Due.is("how many", book.count(3), 40);
        Due.is("the last was taken from the one ahead", book.of(39, 0), 38);
        Due.is("and led back to the first", book.of(39, 3), 0);
        Due.noSuchElement("no copy 40", () -> book.of(40, 0));
    }

    /** How many places differ between two rows, of which at most four do. */
    private static int places(int row, int other) {
        ArmsBook book = new ArmsBook();
        book.copy(1500, row);
        book.copy(1501, other);
        Due.is("taken", book.of(1, 0), 0);
        return book.of(1, 1);
    }

    private static void eightSigns() {
        for (int place = 0; place < 8; place++) {
            for (int sign = 1; sign < 16; sign++) {
                Due.is("sign " + sign + " at " + place, places(0, sign << 4 * place), 1);
            }
            Due.is("sign 15 taken from place " + place, places(-1, -1 ^ 15 << 4 * place), 1);
        }
        Due.is("bits of two signs", places(0, 0x18), 2);
        Due.is("the first and the last", places(0x10000001, 0xF000000F), 2);
        Due.is("the highest row and itself", places(-1, -1), 0);
        Due.is("the highest and lowest int", places(MOST, LEAST | 0xFFFF), 4);
        Due.is("no sign differs", places(0x12345678, 0x12345678), 0);
        Due.is("four differ", places(0, 0x10203040), 4);
    }

    private static void earlierYear() {
        ArmsBook book = new ArmsBook();
        book.copy(1500, 0);
        book.copy(1500, 0);
        book.copy(1501, 0x11);
        Due.is("of one year", book.of(1, 0), NONE);
        Due.is("of one year, the other way", book.of(0, 0), NONE);
        Due.is("the year ahead", book.of(2, 0), 0);
        book.copy(1499, 0);
        Due.is("told later, of the year ahead", book.of(0, 0), 3);
        Due.is("the other one, too", book.of(1, 0), 3);
        Due.is("not of itself nor a later year", book.of(3, 0), NONE);
        ArmsBook ends = new ArmsBook();
        ends.copy(2000, 5);
        ends.copy(1000, 5);
        Due.is("of the last year from the first", ends.of(0, 0), 1);
    }

    private static void fewestPlaces() {
        ArmsBook book = new ArmsBook();
        book.copy(1500, 0x00000001);
        book.copy(1510, 0x00000011);
        book.copy(1520, 0x00000111);
        book.copy(1530, 0);
        Due.is("one place, though earlier", book.of(3, 0), 0);
        Due.is("its places", book.of(3, 1), 1);
        book.copy(1400, 0);
        Due.is("no place, the earliest of all", book.of(3, 0), 4);
        Due.is("its places", book.of(3, 1), 0);
    }

    private static void likeOnes() {
        ArmsBook book = new ArmsBook();
        book.copy(1510, 0x1);
        book.copy(1520, 0x10);
        book.copy(1520, 0x100);
        book.copy(1505, 0x1000);
        book.copy(1530, 0);
        Due.is("the latest year, of these the least number", book.of(4, 0), 1);
        book.copy(1521, 0x10000);
        Due.is("a later year, of the greatest number", book.of(4, 0), 5);
        book.copy(1530, 0x100000);
        Due.is("not of its own year", book.of(4, 0), 5);
        ArmsBook like = new ArmsBook();
        like.copy(1500, 7);
        like.copy(1500, 7);
        like.copy(1500, 7);
        like.copy(1501, 7);
        Due.is("of three like ones the least number", like.of(3, 0), 0);
    }

    private static void original() {
        ArmsBook book = new ArmsBook();
        book.copy(1500, 0);
        Due.is("the only one", book.of(0, 0), NONE);
        book.copy(1501, 0x11110);
        Due.is("four differ", book.of(1, 0), 0);
        Due.is("four places", book.of(1, 1), 4);
        book.copy(1501, 0x22222);
        Due.is("five differ", book.of(2, 0), NONE);
        Due.is("no places", book.of(2, 1), 0);
        book.copy(1501, 0x33333333);
        Due.is("all eight differ", book.of(3, 0), NONE);
        Due.is("led to itself", book.of(3, 3), 3);
        Due.is("taken from the first", book.of(0, 4), 1);
        book.copy(1502, 0x22333333);
        Due.is("five and two differ: the nearer", book.of(4, 0), 3);
    }

    private static void drift() {
        ArmsBook book = new ArmsBook();
        book.copy(1500, 0);
        book.copy(1510, 0x1111);
        book.copy(1520, 0x11111111);
        book.copy(1530, 0x11111111);
        int[] due = {0, 4, 8, 8};
        for (int i = 0; i < 4; i++) {
            Due.is("drift of " + i, book.of(i, 2), due[i]);
        }
        book.copy(1540, 0x22222111);
        Due.is("of an original", book.of(4, 2), 0);
        ArmsBook there = new ArmsBook();
        there.copy(1500, 0);
        there.copy(1510, 0x1111);
        there.copy(1520, 0x11110000 | 0x1111);
        there.copy(1530, 0x22221111);
        there.copy(1540, 0x22222222);
        Due.is("more than eight", there.of(4, 2), 16);
        ArmsBook longest = new ArmsBook();
        for (int i = 0; i < 40; i++) {
            longest.copy(1500 + i, i % 2 == 0 ? i << 16 : (i << 16) | 0xFFF);
        }
        Due.is("of forty, each from an earlier one", longest.of(39, 3), 0);
        ArmsBook late = new ArmsBook();
        late.copy(1520, 0x11);
        Due.is("an original yet", late.of(0, 2), 0);
        late.copy(1510, 0x1);
        Due.is("one ahead was told", late.of(0, 2), 1);
        late.copy(1500, 0);
        Due.is("one ahead of both was told", late.of(0, 2), 2);
    }

    private static void numbers() {
        ArmsBook book = new ArmsBook();
        Due.is("the first", book.copy(2000, LEAST), 0);
        Due.is("a refused one", book.copy(2001, 0), NONE);
        Due.is("the second", book.copy(1000, MOST), 1);
        Due.is("the third, like the first", book.copy(2000, LEAST), 2);
    }

    private static void refusedCopy() {
        ArmsBook book = new ArmsBook();
        book.copy(1500, 0);
        for (int year : new int[] {LEAST, -1, 0, 999, 2001, 65536 + 1500, MOST}) {
            Due.is("copy(" + year + ", 0)", book.copy(year, 0), NONE);
        }
        Due.is("none came", book.count(3), 1);
        Due.is("none is an earlier one", book.of(0, 0), NONE);
        Due.is("none was taken from it", book.of(0, 4), 0);
        Due.is("year 1000", book.copy(1000, 0), 1);
        Due.is("year 2000", book.copy(2000, 0), 2);
        for (int i = 3; i < 40; i++) {
            book.copy(1501, 0);
        }
        Due.is("there are 40", book.copy(1400, 0), NONE);
        Due.is("there are 40, of a wrong year", book.copy(999, 0), NONE);
        Due.is("none came", book.count(3), 40);
        Due.is("what it was taken from stays", book.of(0, 0), 1);
    }

    private static void of() {
        ArmsBook book = new ArmsBook();
        book.copy(1500, 0);
        book.copy(1510, 0x1);
        book.copy(1520, 0x11);
        book.copy(1530, 0x77777777);
        int[][] due = {
            {NONE, 0, 0, 0, 1},
            {0, 1, 1, 0, 1},
            {1, 1, 2, 0, 0},
            {NONE, 0, 0, 3, 0}
        };
        for (int copy = 0; copy < 4; copy++) {
            for (int what = 0; what < 5; what++) {
                Due.is("of(" + copy + ", " + what + ")", book.of(copy, what), due[copy][what]);
            }
        }
        ArmsBook back = new ArmsBook();
        back.copy(1510, 0);
        back.copy(1500, 0);
        Due.is("the first of all was taken from the next", back.of(0, 0), 1);
        Due.is("it is counted, too", back.of(1, 4), 1);
        ArmsBook many = new ArmsBook();
        many.copy(1500, 0);
        for (int i = 1; i < 40; i++) {
            many.copy(1501, i % 16);
        }
        Due.is("39 were taken from it", many.of(0, 4), 39);
        Due.is("no place differs, but taken", many.of(16, 0), 0);
        Due.is("of no places", many.of(16, 1), 0);
    }

    private static void wrongOf() {
        ArmsBook book = new ArmsBook();
        Due.noSuchElement("no copy at all", () -> book.of(0, 0));
        book.copy(1500, 0);
        for (int copy : new int[] {LEAST, -2, -1, 1, 2, 40, 256, MOST}) {
            Due.noSuchElement("of(" + copy + ", 0)", () -> book.of(copy, 0));
            Due.noSuchElement("of(" + copy + ", 5)", () -> book.of(copy, 5));
        }
        for (int what : new int[] {LEAST, -1, 5, 6, 256, MOST}) {
            Due.noSuchElement("of(0, " + what + ")", () -> book.of(0, what));
        }
    }
}
