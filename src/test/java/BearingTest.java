/** Promises 4 (grant), 9 (bears), 10 (mark), 11 (head), 12 (quarter), 15 (rivals). */
public final class BearingTest {
    public static void main(String[] args) {
        grant();
        grantLimit();
        latestGrant();
        armsGoDown();
        wrongBears();
        linesLive();
        marks();
        marksOfLikeBirth();
        heads();
        headOfFemale();
        heiress();
        quarterRow();
        deadMothersQuarters();
        mothersRowOfTwelve();
        kinOfKin();
        rivals();
        Due.finish();
    }

    private static void grant() {
        ArmsBook book = new ArmsBook();
        book.person(false, 1500, 1560);
        Due.is("arms 0", book.grant(0, 0, 1500), -1);
        Due.is("arms 100", book.grant(0, 100, 1500), -1);
        Due.is("year 999", book.grant(0, 1, 999), -1);
        Due.is("year 2001", book.grant(0, 1, 2001), -1);
        Due.is("none came", book.count(1), 0);
        Due.is("arms 1, year 1000", book.grant(0, 1, 1000), 0);
        Due.is("arms 99, year 2000", book.grant(0, 99, 2000), 1);
        Due.noSuchElement("grant(1, 1, 1500)", () -> book.grant(1, 1, 1500));
        Due.noSuchElement("grant(-1, 1, 1500)", () -> book.grant(-1, 1, 1500));
        Due.noSuchElement("grant(1, 100, 1)", () -> book.grant(1, 100, 1));
        Due.is("two came", book.count(1), 2);
    }

    private static void grantLimit() {
        ArmsBook book = new ArmsBook();
        book.person(false, 1500, 1560);
        for (int i = 0; i < 40; i++) {
            Due.is("grant " + i, book.grant(0, i + 1, 1500), i);
        }
        Due.is("grant 40", book.grant(0, 1, 1500), -1);
        Due.noSuchElement("grant 40 to nobody", () -> book.grant(1, 1, 1500));
        Due.is("the later told counts", book.bears(0, 1500, 0), 40);
        Due.is("still 40", book.count(1), 40);
    }

    private static void latestGrant() {
        ArmsBook book = new ArmsBook();
        book.person(false, 1500, 1560);
        book.grant(0, 5, 1540);
        book.grant(0, 6, 1520);
        Due.is("ahead of all", book.bears(0, 1519, 0), -1);
        Due.is("from its year on", book.bears(0, 1520, 0), 6);
        Due.is("a year ahead of the next", book.bears(0, 1539, 0), 6);
        Due.is("the latest, though told first", book.bears(0, 1540, 0), 5);
        book.grant(0, 7, 1540);
        Due.is("of like ones the later told", book.bears(0, 1700, 0), 7);
        Due.is("in the highest year", book.bears(0, Integer.MAX_VALUE, 0), 7);
        Due.is("in the lowest year", book.bears(0, Integer.MIN_VALUE, 0), -1);
    }

    /** 0, its son 1, that one's son 2, and 2's daughter 3. */
    private static ArmsBook fourSteps() {
        ArmsBook book = new ArmsBook();
        book.person(false, 1400, 1460);
        book.person(false, 1430, 1490);
        book.person(false, 1460, 1520);
        book.person(true, 1490, 1550);
        book.parent(1, 0, 0, 8);
        book.parent(2, 0, 1, 3);
        book.parent(3, 0, 2, 6);
        return book;
    }

    private static void armsGoDown() {
        ArmsBook book = fourSteps();
        book.grant(0, 10, 1440);
        for (int person = 0; person < 4; person++) {
            Due.is("arms of " + person, book.bears(person, 1500, 0), 10);
            Due.is("root of " + person, book.bears(person, 1500, 1), 0);
            Due.is("steps of " + person, book.bears(person, 1500, 2), person);
        }
        int[] grades = {9, 8, 3, 3};
        for (int person = 0; person < 4; person++) {
            Due.is("grade of " + person, book.bears(person, 1500, 3), grades[person]);
            Due.is("plain " + person, book.bears(person, 1500, 7), 1);
            for (int what = 0; what < 4; what++) {
                Due.is("without arms " + what, book.bears(person, 1439, what), -1);
            }
            Due.is("not plain without arms", book.bears(person, 1439, 7), 0);
        }
        book.grant(2, 11, 1480);
        Due.is("the first going up", book.bears(3, 1500, 0), 11);
        Due.is("its root", book.bears(3, 1500, 1), 2);
        Due.is("its grade", book.bears(3, 1500, 3), 6);
        Due.is("ahead of the nearer grant", book.bears(3, 1479, 0), 10);
        ArmsBook byMother = new ArmsBook();
        byMother.person(true, 1500, 1560);
        byMother.person(false, 1530, 1590);
        byMother.parent(1, 1, 0, 9);
        byMother.grant(0, 4, 1500);
        Due.is("no arms by a mother", byMother.bears(1, 1540, 0), -1);
    }

    private static void wrongBears() {
        ArmsBook book = fourSteps();
        Due.noSuchElement("what 8", () -> book.bears(0, 1500, 8));
        Due.noSuchElement("what -1", () -> book.bears(0, 1500, -1));
        Due.noSuchElement("person 4", () -> book.bears(4, 1500, 0));
        Due.noSuchElement("person -1", () -> book.bears(-1, 1500, 0));
    }

    private static void linesLive() {
        ArmsBook book = fourSteps();
        Due.is("not ahead of birth", book.bears(0, 1399, 4), 0);
        Due.is("in the year of birth", book.bears(0, 1400, 4), 1);
        Due.is("in the year of death", book.bears(0, 1460, 4), 1);
        Due.is("not behind it", book.bears(0, 1461, 4), 0);
        Due.is("no line ahead of birth", book.bears(0, 1399, 5), 0);
        Due.is("the line of one who lives himself", book.bears(0, 1405, 5), 1);
        Due.is("the line lives in a son's son", book.bears(0, 1520, 5), 1);
        Due.is("not in a daughter", book.bears(0, 1521, 5), 0);
        Due.is("a female has none", book.bears(3, 1500, 5), 0);
        ArmsBook gap = new ArmsBook();
        gap.person(false, 1500, 1530);
        gap.person(false, 1531, 1560);
        gap.parent(1, 0, 0, 5);
        Due.is("a son born behind the death: that year", gap.bears(0, 1531, 5), 1);
        ArmsBook byMother = new ArmsBook();
        byMother.person(true, 1500, 1530);
        byMother.person(false, 1525, 1560);
        byMother.parent(1, 1, 0, 5);
        Due.is("a mother's line never lives", byMother.bears(0, 1528, 5), 0);
    }

    /** 0 has the sons 1 (1530), 2 (1525) and 4 (1540) and the daughter 3 (1535); 5 is a son of 2. */
    private static ArmsBook brothers() {
        ArmsBook book = new ArmsBook();
        book.person(false, 1500, 1570);
        book.person(false, 1530, 1590);
        book.person(false, 1525, 1550);
        book.person(true, 1535, 1600);
        book.person(false, 1540, 1545);
        book.person(false, 1548, 1560);
        for (int child = 1; child <= 4; child++) {
            book.parent(child, 0, 0, 9);
        }
        book.parent(5, 0, 2, 9);
        book.grant(0, 7, 1500);
        return book;
    }

    private static void marks() {
        ArmsBook book = brothers();
        Due.is("the elder, of the greater number", book.mark(2, 1542, 0), 1);
        Due.is("the second", book.mark(1, 1542, 0), 2);
        Due.is("a female at her place", book.mark(3, 1542, 0), 3);
        Due.is("no female counts for others", book.mark(4, 1542, 0), 3);
        Due.is("one whose line is dead, at its place", book.mark(4, 1600, 0), 1);
        Due.is("a dead one whose line is dead", book.mark(4, 1546, 0), 3);
        Due.is("a line that lives by a son", book.mark(1, 1560, 0), 2);
        Due.is("that son is dead", book.mark(1, 1561, 0), 1);
        Due.is("one not born yet", book.mark(4, 1531, 0), 3);
        Due.is("no mark by one not born yet", book.mark(1, 1524, 0), 1);
        Due.is("from the root down, first", book.mark(5, 1549, 0), 1);
        Due.is("from the root down, second", book.mark(5, 1549, 1), 1);
        Due.is("plain", book.bears(5, 1549, 7), 1);
        Due.is("not plain", book.bears(1, 1549, 7), 0);
        book.person(false, 1570, 1599);
        book.parent(6, 0, 1, 9);
        Due.is("the root's son's mark", book.mark(6, 1555, 0), 2);
        Due.is("one's own mark", book.mark(6, 1555, 1), 1);
        Due.is("not plain by the father's mark", book.bears(6, 1555, 7), 0);
        Due.noSuchElement("behind the last", () -> book.mark(6, 1555, 2));
        Due.noSuchElement("mark -1", () -> book.mark(6, 1555, -1));
        Due.noSuchElement("a root has none", () -> book.mark(0, 1555, 0));
        Due.noSuchElement("none without arms", () -> book.mark(6, 1499, 0));
        Due.noSuchElement("mark -1 without arms", () -> book.mark(6, 1499, -1));
        Due.noSuchElement("person 7", () -> book.mark(7, 1555, 0));
    }

    private static void marksOfLikeBirth() {
        ArmsBook book = new ArmsBook();
        book.person(false, 1500, 1570);
        for (int child = 1; child <= 3; child++) {
            book.person(false, 1530, 1590);
            book.parent(child, 0, 0, 9);
        }
        book.grant(0, 7, 1500);
        for (int child = 1; child <= 3; child++) {
            Due.is("of like birth by number, " + child, book.mark(child, 1540, 0), child);
        }
    }

    private static void heads() {
        ArmsBook book = brothers();
        Due.is("the root itself", book.head(0, 1570), 0);
        Due.is("then the elder line", book.head(0, 1571), 1);
        Due.is("all dead", book.head(0, 1591), -1);
        Due.is("ahead of birth", book.head(0, 1499), -1);
        ArmsBook early = new ArmsBook();
        early.person(false, 1500, 1540);
        early.person(false, 1520, 1545);
        early.person(false, 1522, 1599);
        early.person(false, 1544, 1548);
        early.parent(1, 0, 0, 9);
        early.parent(2, 0, 0, 9);
        early.parent(3, 0, 1, 9);
        Due.is("the eldest son", early.head(0, 1541), 1);
        Due.is("the eldest son's son ahead of the brother", early.head(0, 1546), 3);
        Due.is("then the brother", early.head(0, 1549), 2);
        Due.is("of one who is no root", early.head(1, 1549), -1);
        Due.noSuchElement("head(4, 1500)", () -> early.head(4, 1500));
        Due.noSuchElement("head(-1, 1500)", () -> early.head(-1, 1500));
    }

    private static void headOfFemale() {
        ArmsBook book = new ArmsBook();
        book.person(true, 1500, 1540);
        book.person(true, 1520, 1599);
        book.person(false, 1530, 1599);
        book.parent(1, 1, 0, 9);
        book.parent(2, 1, 0, 9);
        Due.is("a female who lives", book.head(0, 1540), 0);
        Due.is("her son, not her daughter", book.head(0, 1541), 2);
        Due.is("a daughter without sons", book.head(1, 1600), -1);
    }

    private static void heiress() {
        ArmsBook book = brothers();
        Due.is("her father lives", book.bears(3, 1569, 6), 0);
        Due.is("a brother's line lives", book.bears(3, 1590, 6), 0);
        Due.is("no brother's line lives", book.bears(3, 1591, 6), 1);
        Due.is("a male is none", book.bears(1, 1591, 6), 0);
        ArmsBook alone = new ArmsBook();
        alone.person(false, 1500, 1550);
        alone.person(true, 1530, 1590);
        Due.is("no father told", alone.bears(1, 1560, 6), 0);
        alone.parent(1, 0, 0, 9);
        Due.is("the year ahead of his death", alone.bears(1, 1549, 6), 0);
        Due.is("the year of his death", alone.bears(1, 1550, 6), 1);
        Due.is("when she is dead, too", alone.bears(1, 1700, 6), 1);
        alone.person(false, 1551, 1555);
        alone.parent(2, 0, 0, 9);
        Due.is("a brother yet to be born", alone.bears(1, 1550, 6), 1);
        Due.is("the brother is born", alone.bears(1, 1551, 6), 0);
        Due.is("the brother is dead", alone.bears(1, 1556, 6), 1);
        ArmsBook untold = new ArmsBook();
        untold.person(false, 1500, -1);
        untold.person(true, 1530, -1);
        untold.parent(1, 0, 0, 9);
        Due.is("no death told: not yet", untold.bears(1, 1599, 6), 0);
        Due.is("no death told: 100 years", untold.bears(1, 1600, 6), 1);
    }

    private static void quarterRow() {
        ArmsBook book = new ArmsBook();
        book.person(false, 1500, 1550);
        book.person(true, 1520, 1590);
        book.person(false, 1500, 1560);
        book.person(false, 1525, 1599);
        book.person(false, 1550, 1620);
        book.parent(1, 0, 0, 9);
        book.parent(3, 0, 2, 9);
        book.parent(4, 0, 3, 9);
        book.parent(4, 1, 1, 9);
        book.grant(0, 20, 1510);
        book.grant(2, 30, 1512);
        book.grant(4, 40, 1575);
        Due.is("without arms", book.quarter(4, 1509, -1), 0);
        Due.is("the mother is no heiress yet", book.quarter(4, 1549, -1), 1);
        Due.is("the father's arms", book.quarter(4, 1549, 0), 30);
        Due.is("the mother is an heiress", book.quarter(4, 1550, -1), 2);
        Due.is("what she brings", book.quarter(4, 1550, 1), 20);
        int[] row = {30, 40, 20};
        Due.is("with a grant of one's own", book.quarter(4, 1575, -1), 3);
        for (int i = 0; i < 3; i++) {
            Due.is("quarter " + i, book.quarter(4, 1575, i), row[i]);
        }
        book.grant(0, 30, 1580);
        Due.is("no two alike", book.quarter(4, 1580, -1), 2);
        Due.noSuchElement("behind the last", () -> book.quarter(4, 1580, 2));
        Due.noSuchElement("quarter -2", () -> book.quarter(4, 1580, -2));
        Due.noSuchElement("none at all", () -> book.quarter(4, 1509, 0));
        Due.noSuchElement("person 5", () -> book.quarter(5, 1580, -1));
    }

    /** The mother dies as an heiress or not; later her half brother is born or dies. */
    private static void deadMothersQuarters() {
        ArmsBook late = new ArmsBook();
        late.person(false, 1500, 1540);
        late.person(true, 1520, 1540);
        late.person(false, 1541, 1600);
        late.person(false, 1538, 1600);
        late.parent(1, 0, 0, 9);
        late.parent(2, 0, 0, 9);
        late.parent(3, 1, 1, 9);
        late.grant(0, 5, 1500);
        Due.is("not ahead of her father's death", late.quarter(3, 1539, -1), 0);
        Due.is("no heiress now, but when she died", late.quarter(3, 1541, -1), 1);
        Due.is("she isn't one now", late.bears(1, 1541, 6), 0);
        ArmsBook early = new ArmsBook();
        early.person(false, 1500, 1540);
        early.person(true, 1520, 1545);
        early.person(false, 1530, 1560);
        early.person(false, 1538, 1600);
        early.parent(1, 0, 0, 9);
        early.parent(2, 0, 0, 9);
        early.parent(3, 1, 1, 9);
        early.grant(0, 5, 1500);
        Due.is("her brother lives", early.quarter(3, 1560, -1), 0);
        Due.is("heiress though dead", early.quarter(3, 1561, -1), 1);
    }

    /** A mother's row of twelve fills her child's, whether or not the child has some of it already. */
    private static void mothersRowOfTwelve() {
        ArmsBook book = new ArmsBook();
        for (int i = 0; i < 14; i++) {
            book.person(i == 13, 1000 + 20 * i, 1020 + 20 * i);
            if (i > 0) {
                book.parent(i, 0, i - 1, 9);
            }
            book.grant(i, i + 1, 1000);
        }
        book.person(false, 1260, 1330);
        book.person(false, 1280, 1340);
        book.parent(15, 0, 14, 9);
        book.parent(15, 1, 13, 9);
        book.grant(14, 50, 1000);
        Due.is("twelve of fourteen", book.quarter(13, 1400, -1), 12);
        Due.is("the last of twelve", book.quarter(13, 1400, 11), 12);
        Due.is("twelve with one's own", book.quarter(15, 1400, -1), 12);
        Due.is("one's own comes first", book.quarter(15, 1400, 0), 50);
        Due.is("then eleven of hers", book.quarter(15, 1400, 11), 11);
        book.grant(14, 1, 1001);
        Due.is("her thirteenth doesn't come", book.quarter(15, 1400, -1), 12);
        Due.is("her twelfth is the last", book.quarter(15, 1400, 11), 12);
        book.grant(15, 2, 1001);
        Due.is("still twelve", book.quarter(15, 1400, -1), 12);
        Due.noSuchElement("no thirteenth", () -> book.quarter(15, 1400, 12));
    }

    /** Brother and sister through thirty generations: a walk along all ways would not end in time. */
    private static void kinOfKin() {
        ArmsBook book = new ArmsBook();
        for (int i = 0; i < 30; i++) {
            book.person(false, 1000 + 20 * i, 1040 + 20 * i);
            book.person(true, 1000 + 20 * i, 1040 + 20 * i);
            for (int child = 2 * i; i > 0 && child <= 2 * i + 1; child++) {
                book.parent(child, 0, 2 * i - 2, 9);
                book.parent(child, 1, 2 * i - 1, 9);
            }
        }
        book.grant(1, 77, 1000);
        book.grant(58, 78, 1000);
        Due.is("no arms by a mother without a father", book.quarter(59, 2000, -1), 0);
        Due.is("one's own", book.quarter(58, 2000, 0), 78);
        book.grant(0, 79, 1000);
        Due.is("the first father's", book.quarter(59, 2000, 0), 79);
        Due.is("thirty steps", book.bears(59, 2000, 2), 29);
        Due.is("the last mark", book.mark(59, 2000, 28), 1);
        Due.is("common", book.common(58, 59), 57);
    }

    private static void rivals() {
        ArmsBook book = brothers();
        book.person(false, 1500, 1540);
        Due.is("none", book.rivals(5, 1550), 0);
        book.grant(6, 7, 1520);
        Due.is("ahead of the other's grant", book.rivals(5, 1519), 0);
        Due.is("from its year on, though dead", book.rivals(5, 1550), 1);
        Due.is("of the root", book.rivals(0, 1550), 1);
        Due.is("of the other one", book.rivals(6, 1550), 1);
        Due.is("without arms", book.rivals(5, 1499), 0);
        book.grant(6, 8, 1530);
        Due.is("the latest they have", book.rivals(5, 1550), 0);
        Due.is("before that one", book.rivals(5, 1529), 1);
        book.grant(1, 7, 1540);
        Due.is("one's own kin by a grant", book.rivals(0, 1550), 1);
        Due.is("a root is no rival of itself", book.rivals(1, 1550), 1);
        Due.noSuchElement("rivals(7, 1500)", () -> book.rivals(7, 1500));
        Due.noSuchElement("rivals(-1, 1500)", () -> book.rivals(-1, 1500));
    }
}
