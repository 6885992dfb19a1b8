/** The document's sentences on grants, arms, lines, marks, heads and rivals. */
final class BearingSentences {
    private static final int NONE = ArmsBook.NONE;
    private static final int LEAST = Integer.MIN_VALUE;
    private static final int MOST = Integer.MAX_VALUE;

    private BearingSentences() {
    }

    static void test() {
        grants();
        lines();
        promises();
    }

    private static void grants() {
        Sentence.holds("A GRANT: ARMS (1 to 99)", BearingSentences::armsOneToNinetyNine);
        Sentence.holds("to one from a YEAR on;", BearingSentences::fromAYearOn);
        Sentence.holds("at most 40.", BearingSentences::atMostForty);
        Sentence.holds("One's ARMS in a YEAR: one is gone up from to FATHERS: the first (oneself first) who has a "
                + "GRANT from that YEAR or ahead: its ARMS,", BearingSentences::firstGoingUp);
        Sentence.holds("of several the latest (of like ones the later told);", BearingSentences::latestGrant);
        Sentence.holds("that one is the ROOT; NONE: there is none.", BearingSentences::root);
        Sentence.holds("STEPS: how many FATHERS up;", BearingSentences::steps);
        Sentence.holds("GRADE: the least of all these (9 without STEPS).", BearingSentences::leastGrade);
        Sentence.holds("RIVALS: how many other ROOTS have the same ARMS in that YEAR", BearingSentences::otherRoots);
        Sentence.holds("(by a GRANT of their own from that YEAR or ahead, the latest they have).",
                BearingSentences::rivalsByTheirLatest);
    }

    private static void lines() {
        Sentence.holds("One's CHILDREN are ordered by BIRTH, of like ones by number.", BearingSentences::order);
        Sentence.holds("A LINE LIVES in a YEAR: that of a MALE who is LIVING then,", BearingSentences::lineOfOneLiving);
        Sentence.holds("or one of whose CHILDREN, MALE and BORN not after it, has a LINE that LIVES.",
                BearingSentences::lineByAChild);
        Sentence.holds("(Of a FEMALE: never.)", BearingSentences::noLineOfAFemale);
        Sentence.holds("MARKS of one in a YEAR, from the ROOT down, one for each STEP:",
                BearingSentences::markForEachStep);
        Sentence.holds("the place (from 1 on) among the MALE CHILDREN of that FATHER who are BORN by then and whose "
                + "LINE LIVES,", BearingSentences::placeAmongBrothers);
        Sentence.holds("and this one (if its own doesn't live, or it is FEMALE, it is counted as if it did, at its "
                + "place by BIRTH).", BearingSentences::countedAsIfItDid);
        Sentence.holds("PLAIN: all MARKS are 1.", BearingSentences::plain);
        Sentence.holds("THE HEAD of a ROOT in a YEAR: if the ROOT is LIVING then, it;", BearingSentences::headItself);
        Sentence.holds("else of its MALE CHILDREN, in order, the HEAD (likewise) of the first whose LINE LIVES; NONE.",
                BearingSentences::headBySons);
    }

    private static void promises() {
        Sentence.holds("A GRANT: its number.", BearingSentences::grantNumbers);
        Sentence.holds("NONE: there are 40, no such ARMS, YEAR.", BearingSentences::refusedGrant);
        Sentence.holds("Of one in a YEAR (any int):", BearingSentences::anyYear);
        Sentence.holds("0 ARMS (NONE), 1 the ROOT (NONE), 2 STEPS, 3 GRADE (NONE without ARMS, both),",
                BearingSentences::withoutArms);
        Sentence.holds("4 whether LIVING (1), 5 whether the LINE LIVES, 6 whether an HEIRESS,",
                BearingSentences::oneOrNought);
        Sentence.holds("7 whether PLAIN (0 without ARMS).", BearingSentences::notPlainWithoutArms);
        Sentence.holds("(0 without ARMS). NoSuchElementException: another what.", BearingSentences::wrongBears);
        Sentence.holds("The i-th MARK of one in a YEAR. NoSuchElementException: there is none.",
                BearingSentences::noSuchMark);
        Sentence.holds("THE HEAD of one, as if it were a ROOT, in a YEAR.", BearingSentences::headOfAny);
        Sentence.holds("RIVALS of one's ARMS in a YEAR (0 without ARMS).", BearingSentences::noRivalsWithoutArms);
    }

    private static void armsOneToNinetyNine() {
        for (int arms : new int[] {1, 2, 98, 99}) {
            Family family = new Family();
            int one = family.male(1500, 1560);
            Due.is("grant of " + arms, family.book.grant(one, arms, 1500), 0);
            Due.is("arms " + arms, family.book.bears(one, 1500, 0), arms);
        }
        for (int arms : new int[] {LEAST, -1, 0, 100, 101, 256 + 7, MOST}) {
            Family family = new Family();
            int one = family.male(1500, 1560);
            Due.is("grant of " + arms, family.book.grant(one, arms, 1500), NONE);
            Due.is("arms by it", family.book.bears(one, 1500, 0), NONE);
        }
    }

    private static void fromAYearOn() {
        for (int year : new int[] {1000, 1001, 1999, 2000}) {
            Family family = new Family();
            int one = family.female(1500, 1560);
            Due.is("grant from " + year, family.book.grant(one, 7, year), 0);
            Due.is("the year ahead of " + year, family.book.bears(one, year - 1, 0), NONE);
            Due.is("in " + year, family.book.bears(one, year, 0), 7);
            Due.is("behind " + year, family.book.bears(one, year + 1, 0), 7);
            Due.is("in the greatest year", family.book.bears(one, MOST, 0), 7);
        }
        for (int year : new int[] {LEAST, -1, 0, 999, 2001, 65536 + 1500, MOST}) {
            Family family = new Family();
            int one = family.female(1500, 1560);
            Due.is("grant from " + year, family.book.grant(one, 7, year), NONE);
        }
    }

    private static void atMostForty() {
        Family family = new Family();
        int one = family.male(1500, 1560);
        int other = family.male(1500, 1560);
        for (int i = 0; i < 40; i++) {
            Due.is("grant " + i, family.book.grant(i % 2 == 0 ? one : other, 50 + i, 1500), i);
        }
        Due.is("a grant more", family.book.grant(one, 7, 1600), NONE);
        Due.is("a grant more to another", family.book.grant(other, 7, 1600), NONE);
        Due.is("how many", family.book.count(1), 40);
        Due.is("the arms stay", family.book.bears(one, 1600, 0), 88);
        Due.is("the last grant holds", family.book.bears(other, 1600, 0), 89);
    }

    /** People one behind another, each the son of the one ahead, from the first year on. */
    private static Family chain(int people) {
        Family family = new Family();
        family.male(1000, 1016);
        for (int i = 1; i < people; i++) {
            family.son(i - 1, 1000 + 16 * i, 1016 + 16 * i);
        }
        return family;
    }

    private static void firstGoingUp() {
        Family family = chain(3);
        family.grant(0, 10, 1100);
        for (int person = 0; person < 3; person++) {
            Due.is("a year ahead of the grant", family.book.bears(person, 1099, 0), NONE);
            Due.is("the year of the grant", family.book.bears(person, 1100, 0), 10);
        }
        family.grant(1, 11, 1200);
        Due.is("the father's, a year ahead", family.book.bears(2, 1199, 0), 10);
        Due.is("the father's, ahead of his father's", family.book.bears(2, 1200, 0), 11);
        family.grant(2, 12, 1150);
        Due.is("oneself first, though the father's is later", family.book.bears(2, 1200, 0), 12);
        Due.is("oneself, a year ahead", family.book.bears(2, 1149, 0), 10);
        Due.is("nothing goes up", family.book.bears(0, 1200, 0), 10);
        Family byMother = new Family();
        int mother = byMother.female(1500, 1560);
        byMother.grant(mother, 5, 1500);
        byMother.mother(byMother.male(1530, 1590), mother);
        Due.is("a mother's arms", byMother.book.bears(1, 1540, 0), NONE);
    }

    private static void latestGrant() {
        Family family = new Family();
        int one = family.male(1500, 1560);
        family.grant(one, 5, 1540);
        family.grant(one, 6, 1520);
        family.grant(one, 4, 1530);
        Due.is("told last, but earlier", family.book.bears(one, 1540, 0), 5);
        Due.is("ahead of the latest", family.book.bears(one, 1539, 0), 4);
        Due.is("ahead of the second", family.book.bears(one, 1529, 0), 6);
        family.grant(one, 3, 1540);
        Due.is("of like ones the later told, of lesser arms", family.book.bears(one, 1540, 0), 3);
        family.grant(one, 9, 1540);
        Due.is("of three like ones the last", family.book.bears(one, 1540, 0), 9);
        family.grant(one, 8, 1000);
        Due.is("the first year of all", family.book.bears(one, 1000, 0), 8);
    }

    private static void root() {
        Family family = chain(3);
        Due.is("without a grant", family.book.bears(2, 1500, 1), NONE);
        family.grant(0, 10, 1100);
        family.grant(1, 10, 1200);
        for (int person = 0; person < 3; person++) {
            Due.is("a year ahead of the first", family.book.bears(person, 1099, 1), NONE);
            Due.is("by the first", family.book.bears(person, 1199, 1), 0);
            Due.is("by the second", family.book.bears(person, 1200, 1), Math.min(person, 1));
        }
    }

    private static void steps() {
        Family family = chain(60);
        family.grant(0, 10, 1000);
        for (int person = 0; person < 60; person++) {
            Due.is("steps of " + person, family.book.bears(person, 1500, 2), person);
        }
        Due.is("the arms of the last", family.book.bears(59, 1500, 0), 10);
        family.grant(59, 11, 1500);
        Due.is("oneself, no step", family.book.bears(59, 1500, 2), 0);
        Due.is("a year ahead", family.book.bears(59, 1499, 2), 59);
    }

    private static void leastGrade() {
        Family family = new Family();
        int[] grades = {0, 8, 9, 1, 9};
        for (int i = 0; i < 5; i++) {
            int child = family.male(1000 + 20 * i, 1020 + 20 * i);
            if (i > 0) {
                family.father(child, child - 1, grades[i]);
            }
        }
        family.grant(0, 10, 1000);
        int[] due = {9, 8, 8, 1, 1};
        for (int person = 0; person < 5; person++) {
            Due.is("grade of " + person, family.book.bears(person, 1500, 3), due[person]);
        }
        family.grant(3, 11, 1200);
        Due.is("of no step, by a father of grade 1", family.book.bears(3, 1500, 3), 9);
        Due.is("of one step, of grade 9", family.book.bears(4, 1500, 3), 9);
        Family byMother = new Family();
        int father = byMother.male(1500, 1560);
        int mother = byMother.female(1500, 1560);
        int child = byMother.son(father, 1530, 1590);
        byMother.book.parent(child, 1, mother, 1);
        byMother.grant(father, 7, 1500);
        Due.is("a mother's grade counts for nothing", byMother.book.bears(child, 1530, 3), 9);
    }

    private static void otherRoots() {
        Family family = chain(3);
        family.grant(0, 7, 1000);
        Due.is("a root is not its own rival", family.book.rivals(0, 1100), 0);
        Due.is("nor its children's", family.book.rivals(2, 1100), 0);
        for (int i = 0; i < 39; i++) {
            family.grant(family.male(1500, 1560), 7, 1000);
            Due.is("one more", family.book.rivals(2, 1100), i + 1);
        }
        Due.is("of one of them", family.book.rivals(41, 1100), 39);
        Family kin = chain(3);
        kin.grant(0, 7, 1000);
        kin.grant(1, 7, 1000);
        Due.is("a son by a grant of his own", kin.book.rivals(0, 1100), 1);
        Due.is("a father", kin.book.rivals(2, 1100), 1);
        kin.grant(1, 7, 1001);
        Due.is("two grants, one root", kin.book.rivals(0, 1100), 1);
        kin.grant(2, 8, 1000);
        Due.is("of other arms", kin.book.rivals(2, 1100), 0);
    }

    private static void rivalsByTheirLatest() {
        Family family = new Family();
        int one = family.male(1500, 1560);
        int other = family.male(1500, 1560);
        family.grant(one, 7, 1500);
        family.grant(other, 7, 1520);
        family.grant(other, 8, 1530);
        Due.is("the year ahead of its grant", family.book.rivals(one, 1519), 0);
        Due.is("the year of its grant", family.book.rivals(one, 1520), 1);
        Due.is("the year ahead of its next", family.book.rivals(one, 1529), 1);
        Due.is("the year of its next", family.book.rivals(one, 1530), 0);
        family.grant(other, 7, 1530);
        Due.is("of like years the later told", family.book.rivals(one, 1530), 1);
        family.grant(one, 9, 1540);
        Due.is("one's own next", family.book.rivals(one, 1540), 0);
        int son = family.son(other, 1540, 1590);
        Due.is("no rival by a father's grant", family.book.rivals(son, 1539), 1);
        family.grant(family.male(1400, 1410), 9, 1400);
        Due.is("one long dead", family.book.rivals(one, 1540), 1);
    }

    private static void order() {
        Family family = new Family();
        int father = family.male(1500, 1560);
        int third = family.son(father, 1532, 1590);
        int first = family.son(father, 1530, 1590);
        int second = family.son(father, 1531, 1590);
        int fourth = family.son(father, 1532, 1590);
        family.grant(father, 7, 1500);
        int[] ordered = {first, second, third, fourth};
        for (int place = 0; place < 4; place++) {
            Due.is("the mark of " + ordered[place], family.book.mark(ordered[place], 1540, 0), place + 1);
        }
        Due.is("the head is the eldest", family.book.head(father, 1561), first);
        Family twins = new Family();
        int old = twins.male(1500, 1560);
        int lesser = twins.son(old, 1530, 1580);
        int greater = twins.son(old, 1530, 1590);
        Due.is("of like birth the lesser number", twins.book.head(old, 1561), lesser);
        Due.is("then the greater", twins.book.head(old, 1581), greater);
    }

    private static void lineOfOneLiving() {
        Family family = new Family();
        int one = family.male(1500, 1560);
        Due.is("the year ahead of birth", family.book.bears(one, 1499, 5), 0);
        Due.is("the year of birth", family.book.bears(one, 1500, 5), 1);
        Due.is("the year of death", family.book.bears(one, 1560, 5), 1);
        Due.is("the year behind it", family.book.bears(one, 1561, 5), 0);
    }

    private static void lineByAChild() {
        Family family = new Family();
        int father = family.male(1500, 1530);
        int son = family.son(father, 1531, 1550);
        int grandson = family.son(son, 1551, 1570);
        family.daughter(grandson, 1566, 1620);
        Due.is("a son born the year behind the death", family.book.bears(father, 1531, 5), 1);
        Due.is("the year of the son's death", family.book.bears(father, 1550, 5), 1);
        Due.is("by the son's son", family.book.bears(father, 1551, 5), 1);
        Due.is("to his death", family.book.bears(father, 1570, 5), 1);
        Due.is("not by a daughter", family.book.bears(father, 1571, 5), 0);
        Family unborn = new Family();
        int dead = unborn.male(1500, 1530);
        unborn.son(dead, 1530, 1550);
        Due.is("ahead of all births", unborn.book.bears(dead, 1499, 5), 0);
        Family longest = chain(60);
        Due.is("through 59 sons", longest.book.bears(0, 1016 + 16 * 59, 5), 1);
        Due.is("all are dead", longest.book.bears(0, 1017 + 16 * 59, 5), 0);
    }

    private static void noLineOfAFemale() {
        Family family = new Family();
        int father = family.male(1480, 1510);
        int mother = family.daughter(father, 1500, 1560);
        int son = family.male(1530, 1590);
        family.mother(son, mother);
        Due.is("who is living", family.book.bears(mother, 1520, 5), 0);
        Due.is("whose son is living", family.book.bears(mother, 1561, 5), 0);
        Due.is("nor does her father's by her", family.book.bears(father, 1520, 5), 0);
        Due.is("nor by her son", family.book.bears(father, 1561, 5), 0);
        Due.is("but her son's", family.book.bears(son, 1561, 5), 1);
    }

    private static void markForEachStep() {
        Family family = new Family();
        int root = family.male(1500, 1560);
        family.son(root, 1520, 1590);
        int second = family.son(root, 1522, 1590);
        int grandson = family.son(second, 1540, 1600);
        family.son(second, 1541, 1600);
        int third = family.son(second, 1542, 1600);
        int last = family.son(third, 1560, 1610);
        family.grant(root, 7, 1500);
        Due.is("of the root", family.marks(root, 1550), "");
        Due.is("of one step", family.marks(second, 1550), "2");
        Due.is("of two steps", family.marks(grandson, 1550), "2 1");
        Due.is("of three steps", family.marks(last, 1560), "2 3 1");
        family.grant(second, 8, 1570);
        Due.is("from the new root down", family.marks(last, 1570), "3 1");
        Due.is("a year ahead", family.marks(last, 1569), "2 3 1");
        Family longest = chain(60);
        longest.grant(0, 7, 1000);
        Due.is("the last of 59", longest.book.mark(59, 1500, 58), 1);
        Due.noSuchElement("no 60th", () -> longest.book.mark(59, 1500, 59));
    }

    private static void placeAmongBrothers() {
        Family family = new Family();
        int father = family.male(1500, 1560);
        int eldest = family.son(father, 1520, 1540);
        int son = family.son(eldest, 1540, 1545);
        family.daughter(father, 1521, 1590);
        int younger = family.son(father, 1525, 1590);
        int youngest = family.son(father, 1530, 1590);
        family.grant(father, 7, 1500);
        Due.is("the first is 1", family.book.mark(eldest, 1530, 0), 1);
        Due.is("a sister is not counted", family.book.mark(younger, 1530, 0), 2);
        Due.is("the third", family.book.mark(youngest, 1530, 0), 3);
        Due.is("the year of the eldest's death", family.book.mark(younger, 1540, 0), 2);
        Due.is("his line lives by a son", family.book.mark(younger, 1545, 0), 2);
        Due.is("his line is dead", family.book.mark(younger, 1546, 0), 1);
        Due.is("the youngest then", family.book.mark(youngest, 1546, 0), 2);
        Due.is("the eldest's son", family.marks(son, 1545), "1 1");
        Due.is("the younger is not born yet", family.book.mark(youngest, 1524, 0), 2);
        Due.is("the younger is born", family.book.mark(youngest, 1525, 0), 3);
        Due.is("none is born yet", family.book.mark(youngest, 1519, 0), 1);
        Family halves = new Family();
        int one = halves.male(1500, 1560);
        int other = halves.male(1500, 1560);
        int mother = halves.female(1500, 1560);
        halves.mother(halves.son(other, 1520, 1590), mother);
        int half = halves.son(one, 1525, 1590);
        halves.mother(half, mother);
        halves.grant(one, 7, 1500);
        Due.is("a brother by the mother alone is not counted", halves.book.mark(half, 1540, 0), 1);
        Family many = new Family();
        int patriarch = many.male(1500, 1560);
        many.grant(patriarch, 7, 1500);
        for (int i = 1; i < 60; i++) {
            many.son(patriarch, 1530, 1590);
        }
        Due.is("the 59th", many.book.mark(59, 1540, 0), 59);
    }

    private static void countedAsIfItDid() {
        Family family = new Family();
        int father = family.male(1500, 1560);
        family.son(father, 1520, 1590);
        int brief = family.son(father, 1525, 1530);
        int daughter = family.daughter(father, 1527, 1590);
        int younger = family.son(father, 1529, 1590);
        family.grant(father, 7, 1500);
        Due.is("one whose line is dead, at its place", family.book.mark(brief, 1531, 0), 2);
        Due.is("he is not counted for others", family.book.mark(younger, 1531, 0), 2);
        Due.is("a female, at her place", family.book.mark(daughter, 1530, 0), 3);
        Due.is("a female when her brother is dead", family.book.mark(daughter, 1531, 0), 2);
        Due.is("one not born yet, at its place", family.book.mark(younger, 1526, 0), 3);
        Due.is("all are dead", family.book.mark(younger, 1700, 0), 1);
        Family twins = new Family();
        int old = twins.male(1500, 1560);
        int lesser = twins.daughter(old, 1530, 1590);
        twins.son(old, 1530, 1590);
        int greater = twins.daughter(old, 1530, 1590);
        twins.grant(old, 7, 1500);
        Due.is("a female of like birth, the lesser number", twins.book.mark(lesser, 1540, 0), 1);
        Due.is("a female of like birth, the greater number", twins.book.mark(greater, 1540, 0), 2);
    }

    private static void plain() {
        Family family = new Family();
        int root = family.male(1500, 1560);
        int eldest = family.son(root, 1520, 1550);
        int second = family.son(root, 1522, 1590);
        int firstOfSecond = family.son(second, 1540, 1600);
        int firstOfFirst = family.son(eldest, 1540, 1545);
        int secondOfFirst = family.son(eldest, 1541, 1600);
        family.grant(root, 7, 1500);
        Due.is("of no marks", family.book.bears(root, 1541, 7), 1);
        Due.is("of marks 1", family.book.bears(eldest, 1541, 7), 1);
        Due.is("of marks 2", family.book.bears(second, 1541, 7), 0);
        Due.is("of marks 2 1", family.book.bears(firstOfSecond, 1541, 7), 0);
        Due.is("of marks 1 1", family.book.bears(firstOfFirst, 1541, 7), 1);
        Due.is("of marks 1 2", family.book.bears(secondOfFirst, 1545, 7), 0);
        Due.is("of marks 1 1, the brother being dead", family.book.bears(secondOfFirst, 1546, 7), 1);
    }

    private static void headItself() {
        Family family = new Family();
        int root = family.male(1500, 1560);
        int son = family.son(root, 1520, 1590);
        Due.is("the year ahead of birth", family.book.head(root, 1499), NONE);
        Due.is("the year of birth", family.book.head(root, 1500), root);
        Due.is("the year of death", family.book.head(root, 1560), root);
        Due.is("the year behind it", family.book.head(root, 1561), son);
        Family untold = new Family();
        int one = untold.male(1500, NONE);
        Due.is("no death told, 100 years", untold.book.head(one, 1600), one);
        Due.is("no death told, 101 years", untold.book.head(one, 1601), NONE);
    }

    private static void headBySons() {
        Family family = new Family();
        int root = family.male(1500, 1540);
        int eldest = family.son(root, 1520, 1545);
        int second = family.son(root, 1522, 1550);
        family.daughter(root, 1515, 1600);
        int grandson = family.son(eldest, 1544, 1548);
        int ofSecond = family.son(second, 1545, 1552);
        Due.is("the first son", family.book.head(root, 1541), eldest);
        Due.is("the first son's son ahead of the second son", family.book.head(root, 1546), grandson);
        Due.is("when that line is dead the second son", family.book.head(root, 1549), second);
        Due.is("then his son", family.book.head(root, 1552), ofSecond);
        Due.is("NONE, though a daughter lives", family.book.head(root, 1553), NONE);
        family.male(1500, 1600);
        Due.is("NONE, though another house lives", family.book.head(root, 1553), NONE);
        Family longest = chain(60);
        Due.is("59 sons down", longest.book.head(0, 1016 + 16 * 59), 59);
        Due.is("all are dead", longest.book.head(0, 1017 + 16 * 59), NONE);
    }

    private static void grantNumbers() {
        Family family = new Family();
        int one = family.male(1500, 1560);
        int other = family.female(1500, 1560);
        Due.is("the first", family.book.grant(one, 1, 1500), 0);
        Due.is("a refused one", family.book.grant(one, 0, 1500), NONE);
        Due.is("the second, to another", family.book.grant(other, 1, 1500), 1);
        Due.is("the third, like the first", family.book.grant(one, 1, 1500), 2);
    }

    private static void refusedGrant() {
        Family family = new Family();
        int one = family.male(1500, 1560);
        family.grant(one, 7, 1500);
        Due.is("arms 0", family.book.grant(one, 0, 1500), NONE);
        Due.is("arms 100", family.book.grant(one, 100, 1500), NONE);
        Due.is("year 999", family.book.grant(one, 8, 999), NONE);
        Due.is("year 2001", family.book.grant(one, 8, 2001), NONE);
        Due.is("none came", family.book.count(1), 1);
        Due.is("the arms stay", family.book.bears(one, MOST, 0), 7);
        for (int i = 1; i < 40; i++) {
            family.grant(one, 8, 1500);
        }
        Due.is("there are 40", family.book.grant(one, 9, 1500), NONE);
        Due.is("there are 40, of wrong arms", family.book.grant(one, 0, 1500), NONE);
        Due.noSuchElement("there are 40, and no such one", () -> family.book.grant(1, 9, 1500));
        Due.is("none came", family.book.count(1), 40);
        Due.is("the arms stay", family.book.bears(one, 1500, 0), 8);
    }

    private static void anyYear() {
        Family family = new Family();
        int father = family.male(1500, 1560);
        int daughter = family.daughter(father, 1530, 1590);
        family.grant(father, 7, 1500);
        for (int year : new int[] {LEAST, LEAST + 1, -1, 0, 999, 1499}) {
            int[] due = {NONE, NONE, NONE, NONE, 0, 0, 0, 0};
            for (int what = 0; what < 8; what++) {
                Due.is("bears in " + year + ", what " + what, family.book.bears(daughter, year, what), due[what]);
            }
            Due.is("head in " + year, family.book.head(father, year), NONE);
            Due.is("quarters in " + year, family.book.quarter(daughter, year, NONE), 0);
            Due.is("claim in " + year, family.book.claim(daughter, 7, year), 1);
            Due.is("fee in " + year, family.book.fee(daughter, year), 0);
            Due.is("rivals in " + year, family.book.rivals(daughter, year), 0);
        }
        for (int year : new int[] {1591, 2001, 2101, MOST - 1, MOST}) {
            int[] due = {7, father, 1, 9, 0, 0, 1, 1};
            for (int what = 0; what < 8; what++) {
                Due.is("bears in " + year + ", what " + what, family.book.bears(daughter, year, what), due[what]);
            }
            Due.is("mark in " + year, family.book.mark(daughter, year, 0), 1);
            Due.is("head in " + year, family.book.head(father, year), NONE);
            Due.is("quarters in " + year, family.quarters(daughter, year), "7");
            Due.is("claim in " + year, family.book.claim(daughter, 7, year), 2);
            Due.is("rivals in " + year, family.book.rivals(daughter, year), 0);
        }
    }

    private static void withoutArms() {
        Family family = chain(3);
        for (int what = 0; what < 4; what++) {
            Due.is("nobody has a grant, what " + what, family.book.bears(2, 1040, what), NONE);
        }
        family.grant(1, 7, 1040);
        int[] due = {7, 1, 1, 9};
        for (int what = 0; what < 4; what++) {
            Due.is("the year ahead, what " + what, family.book.bears(2, 1039, what), NONE);
            Due.is("the year of the grant, what " + what, family.book.bears(2, 1040, what), due[what]);
            Due.is("of the father's father, what " + what, family.book.bears(0, 1040, what), NONE);
        }
    }

    private static void oneOrNought() {
        Family family = new Family();
        int father = family.male(1500, 1560);
        int daughter = family.daughter(father, 1530, 1590);
        Due.is("LIVING, no grant being told", family.book.bears(daughter, 1590, 4), 1);
        Due.is("not LIVING", family.book.bears(daughter, 1591, 4), 0);
        Due.is("the LINE LIVES", family.book.bears(father, 1560, 5), 1);
        Due.is("the LINE LIVES no more", family.book.bears(father, 1561, 5), 0);
        Due.is("an HEIRESS", family.book.bears(daughter, 1560, 6), 1);
        Due.is("no HEIRESS yet", family.book.bears(daughter, 1559, 6), 0);
    }

    private static void notPlainWithoutArms() {
        Family family = chain(2);
        family.grant(0, 7, 1010);
        Due.is("a root, the year ahead", family.book.bears(0, 1009, 7), 0);
        Due.is("a root", family.book.bears(0, 1010, 7), 1);
        Due.is("a son, the year ahead", family.book.bears(1, 1009, 7), 0);
        Due.is("a son", family.book.bears(1, 1010, 7), 1);
    }

    private static void wrongBears() {
        Family family = chain(2);
        family.grant(0, 7, 1010);
        for (int what : new int[] {LEAST, -1, 8, 9, 256, MOST}) {
            Due.noSuchElement("bears(1, 1010, " + what + ")", () -> family.book.bears(1, 1010, what));
            Due.noSuchElement("bears(1, 1000, " + what + ")", () -> family.book.bears(1, 1000, what));
        }
    }

    private static void noSuchMark() {
        Family family = chain(3);
        family.grant(0, 7, 1010);
        Due.is("the first of two", family.book.mark(2, 1010, 0), 1);
        Due.is("the second of two", family.book.mark(2, 1010, 1), 1);
        for (int i : new int[] {LEAST, -2, -1, 2, 3, 59, 60, 256, MOST}) {
            Due.noSuchElement("mark(2, 1010, " + i + ")", () -> family.book.mark(2, 1010, i));
        }
        for (int i : new int[] {LEAST, -1, 0, MOST}) {
            Due.noSuchElement("of a root, " + i, () -> family.book.mark(0, 1010, i));
            Due.noSuchElement("without arms, " + i, () -> family.book.mark(2, 1009, i));
        }
    }

    private static void headOfAny() {
        Family family = chain(3);
        Due.is("of one without a grant", family.book.head(0, 1000), 0);
        Due.is("of one who is a son", family.book.head(1, 1033), 2);
        Due.is("of the last", family.book.head(2, 1049), NONE);
        Family byMother = new Family();
        int mother = byMother.female(1500, 1540);
        int daughter = byMother.female(1520, 1600);
        int son = byMother.male(1530, 1590);
        byMother.mother(daughter, mother);
        byMother.mother(son, mother);
        Due.is("of a female who is living", byMother.book.head(mother, 1540), mother);
        Due.is("of a dead female: her son", byMother.book.head(mother, 1541), son);
        Due.is("of a dead female whose son is dead", byMother.book.head(mother, 1591), NONE);
    }

    private static void noRivalsWithoutArms() {
        Family family = new Family();
        int one = family.male(1500, 1560);
        int other = family.male(1500, 1560);
        int third = family.male(1500, 1560);
        Due.is("nobody has arms", family.book.rivals(one, 1510), 0);
        family.grant(other, 7, 1500);
        family.grant(third, 7, 1500);
        family.grant(one, 7, 1520);
        Due.is("the year ahead of one's grant", family.book.rivals(one, 1519), 0);
        Due.is("the year of one's grant", family.book.rivals(one, 1520), 2);
        Due.is("of the others till then", family.book.rivals(other, 1519), 1);
    }
}
