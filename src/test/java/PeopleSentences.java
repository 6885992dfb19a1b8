/** The document's sentences on people, parents, kin and counts. */
final class PeopleSentences {
    private static final int NONE = ArmsBook.NONE;
    private static final int LEAST = Integer.MIN_VALUE;
    private static final int MOST = Integer.MAX_VALUE;

    private PeopleSentences() {
    }

    static void test() {
        years();
        parents();
        promises();
    }

    private static void years() {
        Sentence.holds("The constants: `NONE = -1`: There is none.", PeopleSentences::none);
        Sentence.holds("PEOPLE, from 0 on, at most 60: MALE or FEMALE,", PeopleSentences::atMostSixty);
        Sentence.holds("BORN in a YEAR (1000 to 2000),", PeopleSentences::born);
        Sentence.holds("DIED in one (of these,", PeopleSentences::diedInAYear);
        Sentence.holds("not ahead of it,", PeopleSentences::diedNotAhead);
        Sentence.holds("at most 100 YEARS behind it;", PeopleSentences::diedAtMostHundredBehind);
        Sentence.holds("NONE: not told: then it is taken for BORN and 100).", PeopleSentences::deathNotTold);
        Sentence.holds("LIVING in a YEAR: BORN not after it,", PeopleSentences::livingFromBirth);
        Sentence.holds("DIED not ahead of it (in the YEAR of death they live still).", PeopleSentences::livingToDeath);
    }

    private static void parents() {
        Sentence.holds("FATHER and MOTHER of one: told with a GRADE (1 to 9),", PeopleSentences::grade);
        Sentence.holds("of a lesser number each.", PeopleSentences::lesserNumber);
        Sentence.holds("A FATHER is MALE,", PeopleSentences::fatherIsMale);
        Sentence.holds("BORN 14 YEARS ahead at least,", PeopleSentences::fatherOfFourteen);
        Sentence.holds("DIED in the YEAR ahead of the BIRTH or later;", PeopleSentences::fatherDied);
        Sentence.holds("a MOTHER is FEMALE,", PeopleSentences::motherIsFemale);
        Sentence.holds("BORN 14 to 50 YEARS ahead,", PeopleSentences::motherOfFourteenToFifty);
        Sentence.holds("LIVING in that YEAR.", PeopleSentences::motherLives);
    }

    private static void promises() {
        Sentence.holds("No PEOPLE, GRANTS, texts, COPIES.", PeopleSentences::newObject);
        Sentence.holds("One of the PEOPLE: the number.", PeopleSentences::numbers);
        Sentence.holds("NONE: there are 60, or a YEAR is not as told.", PeopleSentences::refusedPerson);
        Sentence.holds("FATHER (what 0) or MOTHER (1) of one: true.", PeopleSentences::toldParents);
        Sentence.holds("False: it was told already,", PeopleSentences::toldAlready);
        Sentence.holds("or it can't be (GRADE, number, SEX, YEARS).", PeopleSentences::refusedParent);
        Sentence.holds("NoSuchElementException: no such one (as everywhere), another what.", PeopleSentences::noSuchOne);
        Sentence.holds("Of one: 0 BORN, 1 DIED (NONE), 2 FATHER, 3 MOTHER (NONE), 4 and 5 their GRADES (0: not told), "
                + "6 whether FEMALE (1), 7 how many CHILDREN.", PeopleSentences::about);
        Sentence.holds("how many CHILDREN. NoSuchElementException: another what.", PeopleSentences::wrongAbout);
        Sentence.holds("The first who is of both: of two, going up to FATHERS and MOTHERS alike, the one of the "
                + "greatest number from which both come down (one itself counts); NONE.", PeopleSentences::common);
        Sentence.holds("0 PEOPLE, 1 GRANTS, 2 texts, 3 COPIES, 4 bytes of the tape.", PeopleSentences::fullCounts);
        Sentence.holds("bytes of the tape. NoSuchElementException: another what.", PeopleSentences::wrongCount);
    }

    private static void none() {
        Due.is("NONE", ArmsBook.NONE, -1);
    }

    private static void atMostSixty() {
        for (int sex = 0; sex < 2; sex++) {
            ArmsBook book = new ArmsBook();
            for (int i = 0; i < 60; i++) {
                Due.is("person " + i, book.person(sex == 1, 1500, 1560), i);
            }
            Due.is("one more male", book.person(false, 1500, 1560), NONE);
            Due.is("one more female", book.person(true, 1500, 1560), NONE);
            Due.is("the last one's birth", book.about(59, 0), 1500);
            Due.is("the last one's sex", book.about(59, 6), sex);
            Due.is("how many", book.count(0), 60);
        }
    }

    /** Whether a new book takes one of these years. */
    private static boolean takes(int born, int died) {
        int male = new ArmsBook().person(false, born, died);
        int female = new ArmsBook().person(true, born, died);
        Due.is("male and female alike, " + born + " to " + died, male, female);
        return male == 0;
    }

    private static void born() {
        Due.is("born 999", takes(999, 1050), false);
        Due.is("born 999, no death told", takes(999, NONE), false);
        Due.is("born 1000", takes(1000, 1050), true);
        Due.is("born 1000, no death told", takes(1000, NONE), true);
        Due.is("born 2000", takes(2000, 2000), true);
        Due.is("born 2000, no death told", takes(2000, NONE), true);
        Due.is("born 2001", takes(2001, 2001), false);
        Due.is("born 2001, no death told", takes(2001, NONE), false);
        for (int far : new int[] {LEAST, -1500, -1, 0, 1, 65536 + 1500, MOST}) {
            Due.is("born " + far, takes(far, NONE), false);
            Due.is("born and died " + far, takes(far, far), false);
        }
    }

    private static void diedInAYear() {
        Due.is("died 2000", takes(1950, 2000), true);
        Due.is("died 2001", takes(1950, 2001), false);
        Due.is("died 2050", takes(1950, 2050), false);
        Due.is("died 1000", takes(1000, 1000), true);
        Due.is("died 999", takes(1000, 999), false);
        for (int far : new int[] {LEAST, -1500, -2, 0, 1, 65536 + 1500, MOST}) {
            Due.is("died " + far, takes(1500, far), false);
        }
    }

    private static void diedNotAhead() {
        Due.is("died in the year of birth", takes(1500, 1500), true);
        Due.is("died a year ahead", takes(1500, 1499), false);
        Due.is("died long ahead", takes(2000, 1000), false);
    }

    private static void diedAtMostHundredBehind() {
        Due.is("died 99 years behind", takes(1500, 1599), true);
        Due.is("died 100 years behind", takes(1500, 1600), true);
        Due.is("died 101 years behind", takes(1500, 1601), false);
        Due.is("died 100 years behind, at the end", takes(1900, 2000), true);
        Due.is("died 101 years behind, at the end", takes(1899, 2000), false);
    }

    private static void deathNotTold() {
        for (int born : new int[] {1000, 1500, 1901, 2000}) {
            Family family = new Family();
            int one = family.male(born, NONE);
            Due.is("born " + born + ", living 100 years behind", family.book.bears(one, born + 100, 4), 1);
            Due.is("born " + born + ", living 101 years behind", family.book.bears(one, born + 101, 4), 0);
            Due.is("what is told of the death", family.book.about(one, 1), NONE);
        }
        Due.is("a father of 101", canBeFather(1500, NONE, 1601), true);
        Due.is("a father of 102", canBeFather(1500, NONE, 1602), false);
    }

    private static void livingFromBirth() {
        Family family = new Family();
        int one = family.male(1500, 1560);
        int other = family.female(1500, 1560);
        for (int person = one; person <= other; person++) {
            Due.is("the year ahead of birth", family.book.bears(person, 1499, 4), 0);
            Due.is("the year of birth", family.book.bears(person, 1500, 4), 1);
            Due.is("the least year", family.book.bears(person, LEAST, 4), 0);
        }
    }

    private static void livingToDeath() {
        Family family = new Family();
        int one = family.male(1500, 1560);
        int other = family.female(1500, 1560);
        int brief = family.male(1500, 1500);
        for (int person = one; person <= other; person++) {
            Due.is("the year of death", family.book.bears(person, 1560, 4), 1);
            Due.is("the year behind it", family.book.bears(person, 1561, 4), 0);
            Due.is("the greatest year", family.book.bears(person, MOST, 4), 0);
        }
        Due.is("the only year", family.book.bears(brief, 1500, 4), 1);
        Due.is("behind the only year", family.book.bears(brief, 1501, 4), 0);
    }

    private static void grade() {
        for (int what = 0; what < 2; what++) {
            for (int grade = 1; grade <= 9; grade++) {
                ArmsBook book = parentAndChild(what == 1, 1500, 1560, 1530);
                Due.is("what " + what + ", grade " + grade, book.parent(1, what, 0, grade), true);
                Due.is("its grade", book.about(1, 4 + what), grade);
            }
            for (int grade : new int[] {LEAST, -9, -1, 0, 10, 99, 256 + 5, MOST}) {
                ArmsBook book = parentAndChild(what == 1, 1500, 1560, 1530);
                Due.is("what " + what + ", grade " + grade, book.parent(1, what, 0, grade), false);
                Due.is("no grade", book.about(1, 4 + what), 0);
            }
        }
    }

    private static void lesserNumber() {
        for (int what = 0; what < 2; what++) {
            ArmsBook book = new ArmsBook();
            book.person(what == 1, 1500, 1560);
            book.person(what == 1, 1530, 1590);
            book.person(what == 1, 1500, 1560);
            Due.is("a greater number", book.parent(1, what, 2, 5), false);
            Due.is("its own number", book.parent(1, what, 1, 5), false);
            Due.is("the number ahead", book.parent(1, what, 0, 5), true);
        }
    }

    /** 0 of the given sex and years, and 1, born in the year of birth. */
    private static ArmsBook parentAndChild(boolean female, int born, int died, int birth) {
        ArmsBook book = new ArmsBook();
        book.person(female, born, died);
        book.person(birth % 2 == 0, birth, NONE);
        return book;
    }

    private static boolean canBeFather(int born, int died, int birth) {
        return parentAndChild(false, born, died, birth).parent(1, 0, 0, 5);
    }

    private static boolean canBeMother(int born, int died, int birth) {
        return parentAndChild(true, born, died, birth).parent(1, 1, 0, 5);
    }

    private static void fatherIsMale() {
        Due.is("a male", parentAndChild(false, 1500, 1560, 1530).parent(1, 0, 0, 5), true);
        Due.is("a female", parentAndChild(true, 1500, 1560, 1530).parent(1, 0, 0, 5), false);
    }

    private static void fatherOfFourteen() {
        Due.is("a father of 13", canBeFather(1500, 1560, 1513), false);
        Due.is("a father of 14", canBeFather(1500, 1560, 1514), true);
        Due.is("a father of 51", canBeFather(1500, 1560, 1551), true);
        Due.is("a father of 100", canBeFather(1500, 1600, 1600), true);
        Due.is("of like birth", canBeFather(1500, 1560, 1500), false);
        Due.is("born behind the child", canBeFather(1500, 1560, 1480), false);
    }

    private static void fatherDied() {
        Due.is("two years ahead of the birth", canBeFather(1500, 1560, 1562), false);
        Due.is("in the year ahead of the birth", canBeFather(1500, 1560, 1561), true);
        Due.is("in the year of the birth", canBeFather(1500, 1560, 1560), true);
        Due.is("behind the birth", canBeFather(1500, 1560, 1559), true);
    }

    private static void motherIsFemale() {
        Due.is("a female", parentAndChild(true, 1500, 1560, 1530).parent(1, 1, 0, 5), true);
        Due.is("a male", parentAndChild(false, 1500, 1560, 1530).parent(1, 1, 0, 5), false);
    }

    private static void motherOfFourteenToFifty() {
        Due.is("a mother of 13", canBeMother(1500, 1560, 1513), false);
        Due.is("a mother of 14", canBeMother(1500, 1560, 1514), true);
        Due.is("a mother of 50", canBeMother(1500, 1560, 1550), true);
        Due.is("a mother of 51", canBeMother(1500, 1560, 1551), false);
        Due.is("born behind the child", canBeMother(1500, 1560, 1480), false);
    }

    private static void motherLives() {
        Due.is("died in the year ahead of the birth", canBeMother(1500, 1529, 1530), false);
        Due.is("died in the year of the birth", canBeMother(1500, 1530, 1530), true);
        Due.is("died the year behind it", canBeMother(1500, 1531, 1530), true);
        Due.is("no death told", canBeMother(1500, NONE, 1550), true);
    }

    private static void newObject() {
        ArmsBook used = fullBook();
        Due.is("one that was used", used.count(0), 60);
        ArmsBook book = new ArmsBook();
        for (int what = 0; what <= 4; what++) {
            Due.is("count(" + what + ")", book.count(what), 0);
        }
        Due.is("fault()", book.fault(), NONE);
        Due.noSuchElement("about(0, 0)", () -> book.about(0, 0));
        Due.noSuchElement("grant(0, 1, 1500)", () -> book.grant(0, 1, 1500));
        Due.noSuchElement("of(0, 0)", () -> book.of(0, 0));
        Due.illegalArgument("text(1, 1500)", () -> book.text(1, 1500));
        Due.is("the first person", book.person(false, 1500, 1560), 0);
        Due.is("of no arms", book.bears(0, 1500, 0), NONE);
        Due.is("the first grant", book.grant(0, 1, 1500), 0);
        Due.is("no fee without a text", book.fee(0, 1500), 0);
        Due.is("no claim is refused without a text", book.claim(0, 1, 1500), 0);
        Due.is("the first copy", book.copy(1500, 0), 0);
        Due.is("the first text, of no bytes", book.text(0, 1500), 0);
    }

    private static void numbers() {
        ArmsBook book = new ArmsBook();
        Due.is("the first", book.person(true, 1500, 1560), 0);
        Due.is("a refused one", book.person(true, 999, 1000), NONE);
        Due.is("the second", book.person(false, 1600, NONE), 1);
        Due.is("the third, like the first", book.person(true, 1500, 1560), 2);
    }

    private static void refusedPerson() {
        ArmsBook book = new ArmsBook();
        book.person(true, 1500, 1560);
        Due.is("born too early", book.person(false, 999, 1000), NONE);
        Due.is("died too late", book.person(false, 1950, 2001), NONE);
        Due.is("died ahead of birth", book.person(false, 1950, 1949), NONE);
        Due.is("died too old", book.person(false, 1500, 1601), NONE);
        Due.is("none of them came", book.count(0), 1);
        Due.noSuchElement("nor can be asked for", () -> book.about(1, 0));
        for (int i = 1; i < 60; i++) {
            book.person(false, 1500, 1560);
        }
        Due.is("there are 60", book.person(false, 1600, 1660), NONE);
        Due.is("there are 60, and a wrong year", book.person(false, 1, 2), NONE);
        Due.is("none came", book.count(0), 60);
        Due.is("none was changed", book.about(59, 0), 1500);
        Due.is("the first neither", book.about(0, 6), 1);
    }

    private static void toldParents() {
        ArmsBook book = new ArmsBook();
        book.person(false, 1500, 1560);
        book.person(true, 1500, 1560);
        book.person(true, 1530, 1590);
        Due.is("the mother", book.parent(2, 1, 1, 4), true);
        Due.is("no father by that", book.about(2, 2), NONE);
        Due.is("the father", book.parent(2, 0, 0, 3), true);
        Due.is("about the father", book.about(2, 2), 0);
        Due.is("about the mother", book.about(2, 3), 1);
        Due.is("the father's grade", book.about(2, 4), 3);
        Due.is("the mother's grade", book.about(2, 5), 4);
    }

    private static void toldAlready() {
        ArmsBook book = new ArmsBook();
        book.person(false, 1500, 1560);
        book.person(true, 1500, 1560);
        book.person(false, 1500, 1560);
        book.person(true, 1500, 1560);
        book.person(true, 1530, 1590);
        book.parent(4, 0, 0, 3);
        book.parent(4, 1, 1, 4);
        Due.is("the same father", book.parent(4, 0, 0, 3), false);
        Due.is("another father", book.parent(4, 0, 2, 5), false);
        Due.is("the same mother", book.parent(4, 1, 1, 4), false);
        Due.is("another mother", book.parent(4, 1, 3, 5), false);
        int[] due = {0, 1, 3, 4};
        for (int i = 0; i < 4; i++) {
            Due.is("about(4, " + (2 + i) + ")", book.about(4, 2 + i), due[i]);
        }
        Due.is("children of the other father", book.about(2, 7), 0);
        Due.is("children of the other mother", book.about(3, 7), 0);
    }

    private static void refusedParent() {
        ArmsBook book = new ArmsBook();
        book.person(false, 1500, 1560);
        book.person(true, 1500, 1560);
        book.person(false, 1520, 1570);
        book.person(true, 1520, 1570);
        book.person(true, 1530, 1590);
        book.person(false, 1500, 1560);
        book.person(true, 1500, 1560);
        for (int what = 0; what < 2; what++) {
            Due.is("by its grade", book.parent(4, what, what, 0), false);
            Due.is("by its number", book.parent(4, what, 5 + what, 5), false);
            Due.is("by its sex", book.parent(4, what, 1 - what, 5), false);
            Due.is("by its years", book.parent(4, what, 2 + what, 5), false);
            Due.is("no parent came", book.about(4, 2 + what), NONE);
            Due.is("no grade came", book.about(4, 4 + what), 0);
            Due.is("it can be told yet", book.parent(4, what, what, 5), true);
        }
        for (int person = 2; person < 7; person++) {
            Due.is("children of " + person, book.about(person, 7), 0);
        }
    }

    /** All calls that take people's numbers, on a book of two people. */
    private static void noSuchOne() {
        ArmsBook book = parentAndChild(false, 1500, 1560, 1530);
        book.grant(0, 7, 1500);
        for (int number : new int[] {LEAST, -2, -1, 2, 60, 64, 256, MOST}) {
            Due.noSuchElement("parent(" + number + ", ..)", () -> book.parent(number, 0, 0, 5) ? 1 : 0);
            Due.noSuchElement("parent(1, 0, " + number + ", 5)", () -> book.parent(1, 0, number, 5) ? 1 : 0);
            Due.noSuchElement("parent(1, 1, " + number + ", 5)", () -> book.parent(1, 1, number, 5) ? 1 : 0);
            Due.noSuchElement("grant(" + number + ", 7, 1500)", () -> book.grant(number, 7, 1500));
            Due.noSuchElement("grant(" + number + ", 0, 0)", () -> book.grant(number, 0, 0));
            Due.noSuchElement("about(" + number + ", 0)", () -> book.about(number, 0));
            Due.noSuchElement("bears(" + number + ", 1500, 0)", () -> book.bears(number, 1500, 0));
            Due.noSuchElement("mark(" + number + ", 1500, 0)", () -> book.mark(number, 1500, 0));
            Due.noSuchElement("head(" + number + ", 1500)", () -> book.head(number, 1500));
            Due.noSuchElement("quarter(" + number + ", 1500, -1)", () -> book.quarter(number, 1500, -1));
            Due.noSuchElement("claim(" + number + ", 7, 1500)", () -> book.claim(number, 7, 1500));
            Due.noSuchElement("fee(" + number + ", 1500)", () -> book.fee(number, 1500));
            Due.noSuchElement("rivals(" + number + ", 1500)", () -> book.rivals(number, 1500));
            Due.noSuchElement("common(" + number + ", 0)", () -> book.common(number, 0));
            Due.noSuchElement("common(0, " + number + ")", () -> book.common(0, number));
        }
        for (int what : new int[] {LEAST, -1, 2, 3, 256, MOST}) {
            Due.noSuchElement("parent(1, " + what + ", 0, 5)", () -> book.parent(1, what, 0, 5) ? 1 : 0);
            Due.noSuchElement("parent(1, " + what + ", 0, 0)", () -> book.parent(1, what, 0, 0) ? 1 : 0);
        }
        Due.is("no father came", book.about(1, 2), NONE);
        Due.is("no mother came", book.about(1, 3), NONE);
        Due.is("no person came", book.count(0), 2);
        Due.is("no grant came", book.count(1), 1);
    }

    private static void about() {
        Family family = new Family();
        int father = family.male(1000, 1100);
        int mother = family.female(1000, NONE);
        int child = family.male(1050, NONE);
        int[] alone = {1050, NONE, NONE, NONE, 0, 0, 0, 0};
        for (int what = 0; what <= 7; what++) {
            Due.is("without parents, about " + what, family.book.about(child, what), alone[what]);
        }
        family.father(child, father, 1);
        int half = family.daughter(father, 1051, 1051);
        family.mother(child, mother);
        int[][] due = {
            {1000, 1100, NONE, NONE, 0, 0, 0, 2},
            {1000, NONE, NONE, NONE, 0, 0, 1, 1},
            {1050, NONE, father, mother, 1, 9, 0, 0},
            {1051, 1051, father, NONE, 9, 0, 1, 0}
        };
        for (int person = father; person <= half; person++) {
            for (int what = 0; what <= 7; what++) {
                Due.is("about(" + person + ", " + what + ")", family.book.about(person, what), due[person][what]);
            }
        }
        Family many = new Family();
        int patriarch = many.male(1500, 1560);
        for (int i = 1; i < 60; i++) {
            many.son(patriarch, 1530, 1590);
        }
        Due.is("59 children", many.book.about(patriarch, 7), 59);
    }

    private static void wrongAbout() {
        ArmsBook book = parentAndChild(false, 1500, 1560, 1530);
        for (int what : new int[] {LEAST, -1, 8, 9, 256, MOST}) {
            Due.noSuchElement("about(0, " + what + ")", () -> book.about(0, what));
        }
    }

    private static void common() {
        Family family = new Family();
        int father = family.male(1500, 1560);
        int mother = family.female(1500, 1560);
        int stranger = family.female(1502, 1560);
        int son = family.son(father, 1530, 1590);
        int daughter = family.daughter(father, 1532, 1590);
        int half = family.son(father, 1534, 1590);
        family.mother(son, mother);
        family.mother(daughter, mother);
        family.mother(half, stranger);
        int grandson = family.male(1560, 1620);
        family.mother(grandson, daughter);
        Due.is("no kin", family.book.common(father, mother), NONE);
        Due.is("no kin, the other way", family.book.common(stranger, son), NONE);
        Due.is("oneself", family.book.common(grandson, grandson), grandson);
        Due.is("the first one and itself", family.book.common(0, 0), 0);
        Due.is("one and its mother's father", family.book.common(grandson, father), father);
        Due.is("a mother's father and one", family.book.common(father, grandson), father);
        Due.is("father and mother in common: the greater number", family.book.common(son, daughter), mother);
        Due.is("the father alone in common", family.book.common(half, grandson), father);
        Due.is("one and its mother: she, not her parents", family.book.common(daughter, grandson), daughter);
        Due.is("uncle and nephew", family.book.common(son, grandson), mother);
        for (int i = 0; i < 53; i++) {
            family.male(1500, 1560);
        }
        Due.is("the last one and itself", family.book.common(59, 59), 59);
        Due.is("the last two", family.book.common(58, 59), NONE);
    }

    /** As many of all as a book can hold. */
    private static ArmsBook fullBook() {
        ArmsBook book = new ArmsBook();
        for (int i = 0; i < 60; i++) {
            book.person(false, 1500, 1560);
        }
        for (int i = 0; i < 40; i++) {
            book.grant(0, 1, 1500);
            book.copy(1500, i);
        }
        for (int i = 0; i < 6; i++) {
            Written.text(book, "refuse 1; fee 1;", 1500);
        }
        for (int i = 0; i < 20; i++) {
            book.feed(0, 0, 0, 0, 0);
        }
        return book;
    }

    private static void fullCounts() {
        ArmsBook book = fullBook();
        int[] due = {60, 40, 6, 40, 400};
        for (int what = 0; what <= 4; what++) {
            Due.is("full, count(" + what + ")", book.count(what), due[what]);
        }
        book.person(false, 1500, 1560);
        book.grant(0, 1, 1500);
        book.copy(1500, 0);
        book.feed(0, 0, 0, 0, 0);
        for (int what = 0; what <= 4; what++) {
            Due.is("no more, count(" + what + ")", book.count(what), due[what]);
        }
        book.text(400, 1500);
        Due.is("a seventh text: count(2)", book.count(2), 6);
        Due.is("a seventh text: count(4)", book.count(4), 0);
    }

    private static void wrongCount() {
        ArmsBook book = new ArmsBook();
        for (int what : new int[] {LEAST, -1, 5, 6, 256, MOST}) {
            Due.noSuchElement("count(" + what + ")", () -> book.count(what));
        }
    }
}
