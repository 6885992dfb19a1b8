/** Promises 1 (a new object), 2 (person), 3 (parent), 8 (about), 16 (common), 19 (count). */
public final class PeopleTest {
    public static void main(String[] args) {
        newObject();
        person();
        personLimit();
        parentOfWrongKinds();
        fatherYears();
        motherYears();
        parentWithoutDeath();
        about();
        common();
        count();
        Due.finish();
    }

    private static void newObject() {
        ArmsBook book = new ArmsBook();
        for (int what = 0; what <= 4; what++) {
            Due.is("new count(" + what + ")", book.count(what), 0);
        }
        Due.is("new fault()", book.fault(), ArmsBook.NONE);
        Due.noSuchElement("new about(0, 0)", () -> book.about(0, 0));
        Due.noSuchElement("new of(0, 0)", () -> book.of(0, 0));
        Due.is("new person", book.person(false, 1500, 1560), 0);
        Due.is("another new object has no people", new ArmsBook().count(0), 0);
    }

    private static void person() {
        ArmsBook book = new ArmsBook();
        Due.is("born 999", book.person(false, 999, 1050), -1);
        Due.is("born 2001", book.person(false, 2001, -1), -1);
        Due.is("died 2001", book.person(false, 1950, 2001), -1);
        Due.is("died 999", book.person(false, 1000, 999), -1);
        Due.is("died ahead of birth", book.person(true, 1500, 1499), -1);
        Due.is("died 101 years behind", book.person(true, 1500, 1601), -1);
        Due.is("died -2", book.person(true, 1500, -2), -1);
        Due.is("died far off", book.person(true, 1500, Integer.MIN_VALUE), -1);
        Due.is("born far off", book.person(true, Integer.MIN_VALUE, -1), -1);
        Due.is("none came", book.count(0), 0);
        Due.is("born 1000, died 1000", book.person(false, 1000, 1000), 0);
        Due.is("born 2000, died 2000", book.person(true, 2000, 2000), 1);
        Due.is("born 2000, no death told", book.person(true, 2000, -1), 2);
        Due.is("died 100 years behind", book.person(false, 1500, 1600), 3);
        Due.is("lives to 2100", book.bears(2, 2100, 4), 1);
        Due.is("not in 2101", book.bears(2, 2101, 4), 0);
        Due.is("four came", book.count(0), 4);
    }

    private static void personLimit() {
        ArmsBook book = new ArmsBook();
        for (int i = 0; i < 60; i++) {
            Due.is("person " + i, book.person(i % 2 == 1, 1500, -1), i);
        }
        Due.is("person 60", book.person(false, 1500, -1), -1);
        Due.is("person 60 in a wrong year", book.person(false, 1, -1), -1);
        Due.is("still 60", book.count(0), 60);
        Due.is("about the last", book.about(59, 6), 1);
        Due.noSuchElement("about(60, 0)", () -> book.about(60, 0));
    }

    private static void parentOfWrongKinds() {
        ArmsBook book = new ArmsBook();
        book.person(false, 1500, 1570);
        book.person(true, 1500, 1570);
        book.person(false, 1530, 1590);
        book.person(false, 1500, 1570);
        Due.is("a female father", book.parent(2, 0, 1, 5), false);
        Due.is("a male mother", book.parent(2, 1, 0, 5), false);
        Due.is("grade 0", book.parent(2, 0, 0, 0), false);
        Due.is("grade 10", book.parent(2, 0, 0, 10), false);
        Due.is("a greater number", book.parent(2, 0, 3, 5), false);
        Due.is("oneself", book.parent(2, 0, 2, 5), false);
        Due.noSuchElement("what 2", () -> book.parent(2, 2, 0, 5) ? 1 : 0);
        Due.noSuchElement("what -1", () -> book.parent(2, -1, 0, 5) ? 1 : 0);
        Due.noSuchElement("person -1", () -> book.parent(-1, 0, 0, 5) ? 1 : 0);
        Due.noSuchElement("person 4", () -> book.parent(4, 0, 0, 5) ? 1 : 0);
        Due.noSuchElement("parent -1", () -> book.parent(2, 0, -1, 5) ? 1 : 0);
        Due.noSuchElement("parent 4", () -> book.parent(2, 0, 4, 5) ? 1 : 0);
        Due.is("no father came", book.about(2, 2), -1);
        Due.is("no grade came", book.about(2, 4), 0);
        Due.is("father by grade 1", book.parent(2, 0, 0, 1), true);
        Due.is("mother by grade 9", book.parent(2, 1, 1, 9), true);
        Due.is("father told already", book.parent(2, 0, 0, 2), false);
        Due.is("mother told already", book.parent(2, 1, 1, 2), false);
        Due.is("the father's grade stays", book.about(2, 4), 1);
        Due.is("the mother's grade stays", book.about(2, 5), 9);
    }

    private static void fatherYears() {
        Due.is("a father of 13", canBeParent(false, 1500, 1570, 1513), false);
        Due.is("a father of 14", canBeParent(false, 1500, 1570, 1514), true);
        Due.is("a father of 70", canBeParent(false, 1500, 1570, 1570), true);
        Due.is("a father who died in the year ahead", canBeParent(false, 1500, 1570, 1571), true);
        Due.is("a father who died two years ahead", canBeParent(false, 1500, 1570, 1572), false);
    }

    private static void motherYears() {
        Due.is("a mother of 13", canBeParent(true, 1500, 1570, 1513), false);
        Due.is("a mother of 14", canBeParent(true, 1500, 1570, 1514), true);
        Due.is("a mother of 50", canBeParent(true, 1500, 1570, 1550), true);
        Due.is("a mother of 51", canBeParent(true, 1500, 1570, 1551), false);
        Due.is("a mother who died that year", canBeParent(true, 1500, 1530, 1530), true);
        Due.is("a mother who died the year ahead", canBeParent(true, 1500, 1529, 1530), false);
    }

    private static void parentWithoutDeath() {
        Due.is("a father of 101, no death told", canBeParent(false, 1500, -1, 1601), true);
        Due.is("a father of 102, no death told", canBeParent(false, 1500, -1, 1602), false);
        Due.is("a mother of 50, no death told", canBeParent(true, 1500, -1, 1550), true);
    }

    private static boolean canBeParent(boolean female, int born, int died, int birth) {
        ArmsBook book = new ArmsBook();
        book.person(female, born, died);
        book.person(false, birth, -1);
        return book.parent(1, female ? 1 : 0, 0, 5);
    }

    private static void about() {
        ArmsBook book = family();
        int[] father = {1500, 1560, -1, -1, 0, 0, 0, 3};
        int[] mother = {1502, -1, -1, -1, 0, 0, 1, 2};
        int[] child = {1530, 1590, 0, 1, 7, 6, 0, 0};
        for (int what = 0; what <= 7; what++) {
            Due.is("about(0, " + what + ")", book.about(0, what), father[what]);
            Due.is("about(1, " + what + ")", book.about(1, what), mother[what]);
            Due.is("about(2, " + what + ")", book.about(2, what), child[what]);
        }
        Due.is("a child of the father alone", book.about(4, 3), -1);
        Due.noSuchElement("about(0, 8)", () -> book.about(0, 8));
        Due.noSuchElement("about(0, -1)", () -> book.about(0, -1));
        Due.noSuchElement("about(-1, 0)", () -> book.about(-1, 0));
        Due.noSuchElement("about(5, 0)", () -> book.about(5, 0));
    }

    /** 0 and 1 have the children 2 and 3; 4 is the father's alone. */
    private static ArmsBook family() {
        ArmsBook book = new ArmsBook();
        book.person(false, 1500, 1560);
        book.person(true, 1502, -1);
        book.person(false, 1530, 1590);
        book.person(true, 1532, 1599);
        book.person(false, 1540, 1599);
        book.parent(2, 0, 0, 7);
        book.parent(2, 1, 1, 6);
        book.parent(3, 0, 0, 5);
        book.parent(3, 1, 1, 4);
        book.parent(4, 0, 0, 3);
        return book;
    }

    private static void common() {
        ArmsBook book = family();
        book.person(false, 1560, 1620);
        book.parent(5, 1, 3, 5);
        Due.is("of brother and sister the mother, of the greater number", book.common(2, 3), 1);
        Due.is("of half brothers the father", book.common(2, 4), 0);
        Due.is("through a mother", book.common(5, 4), 0);
        Due.is("through a mother to a mother", book.common(5, 2), 1);
        Due.is("of one and its mother", book.common(5, 3), 3);
        Due.is("of a mother and her child", book.common(3, 5), 3);
        Due.is("of oneself", book.common(5, 5), 5);
        Due.is("of two who are no kin", book.common(0, 1), -1);
        Due.noSuchElement("common(6, 0)", () -> book.common(6, 0));
        Due.noSuchElement("common(0, 6)", () -> book.common(0, 6));
        Due.noSuchElement("common(-1, 0)", () -> book.common(-1, 0));
        Due.noSuchElement("common(0, -1)", () -> book.common(0, -1));
    }

    private static void count() {
        ArmsBook book = family();
        book.grant(0, 7, 1520);
        book.grant(0, 8, 1521);
        Written.text(book, "fee 1;", 1500);
        Written.text(book, "fee", 1500);
        Written.text(book, "", 1500);
        Written.text(book, "fee 3;", 1500);
        book.copy(1500, 1);
        Written.feed(book, "refuse 1; refuse 1; refuse 1;");
        int[] due = {5, 2, 3, 1, 40};
        for (int what = 0; what <= 4; what++) {
            Due.is("count(" + what + ")", book.count(what), due[what]);
        }
        Due.noSuchElement("count(5)", () -> book.count(5));
        Due.noSuchElement("count(-1)", () -> book.count(-1));
    }
}
