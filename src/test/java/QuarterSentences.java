/** The document's sentences on heiresses and quarters. */
final class QuarterSentences {
    private static final int NONE = ArmsBook.NONE;

    private QuarterSentences() {
    }

    static void test() {
        Sentence.holds("HEIRESS in a YEAR: a FEMALE whose FATHER is told", QuarterSentences::fatherIsTold);
        Sentence.holds("and DIED in it, or earlier,", QuarterSentences::fatherDied);
        Sentence.holds("and none of her FATHER's MALE CHILDREN BORN by then has a LINE that LIVES.",
                QuarterSentences::noBrothersLine);
        Sentence.holds("QUARTERS of one in a YEAR: a row of ARMS, no two alike,", QuarterSentences::noTwoAlike);
        Sentence.holds("at most 12 (the first ones):", QuarterSentences::atMostTwelve);
        Sentence.holds("one is gone up from to FATHERS as long as one is told; from the highest one down, oneself, too:",
                QuarterSentences::fromTheHighestDown);
        Sentence.holds("its own ARMS in that YEAR, if it is itself their ROOT;", QuarterSentences::ownArms);
        Sentence.holds("then, if its MOTHER is told, and is an HEIRESS in that YEAR,", QuarterSentences::motherIsHeiress);
        Sentence.holds("or DIED in it or earlier and was one in the YEAR in which she DIED:",
                QuarterSentences::motherDiedAsHeiress);
        Sentence.holds("MOTHER's QUARTERS in that YEAR, in their order.", QuarterSentences::mothersQuarters);
        Sentence.holds("What is in the row already isn't put in once more.", QuarterSentences::notOnceMore);
        Sentence.holds("The i-th of one's QUARTERS in a YEAR; i NONE: how many.", QuarterSentences::howMany);
        Sentence.holds("NoSuchElementException: there is none such.", QuarterSentences::noSuchQuarter);
    }

    private static void fatherIsTold() {
        Family family = new Family();
        int father = family.male(1500, 1540);
        int daughter = family.female(1530, 1590);
        int son = family.male(1531, 1545);
        Due.is("no father is told", family.book.bears(daughter, 1550, 6), 0);
        Due.is("of a male, no father is told", family.book.bears(son, 1550, 6), 0);
        family.father(daughter, father);
        family.father(son, father);
        Due.is("the father is told", family.book.bears(daughter, 1550, 6), 1);
        Due.is("of a male", family.book.bears(son, 1550, 6), 0);
        Due.is("of the father", family.book.bears(father, 1550, 6), 0);
        Family byMother = new Family();
        int mother = byMother.female(1500, 1540);
        int child = byMother.female(1530, 1590);
        byMother.mother(child, mother);
        Due.is("the mother alone is told", byMother.book.bears(child, 1550, 6), 0);
    }

    private static void fatherDied() {
        Family family = new Family();
        int father = family.male(1500, 1540);
        int daughter = family.daughter(father, 1530, 1590);
        Due.is("the year ahead of his death", family.book.bears(daughter, 1539, 6), 0);
        Due.is("the year of his death", family.book.bears(daughter, 1540, 6), 1);
        Due.is("the year behind it", family.book.bears(daughter, 1541, 6), 1);
        Due.is("when she is dead", family.book.bears(daughter, Integer.MAX_VALUE, 6), 1);
        Family untold = new Family();
        int long1 = untold.male(1500, NONE);
        int child = untold.daughter(long1, 1530, NONE);
        Due.is("no death told, 99 years", untold.book.bears(child, 1599, 6), 0);
        Due.is("no death told, 100 years", untold.book.bears(child, 1600, 6), 1);
    }

    private static void noBrothersLine() {
        Family family = new Family();
        int father = family.male(1500, 1540);
        int daughter = family.daughter(father, 1530, 1590);
        family.daughter(father, 1525, 1590);
        Due.is("a sister alone", family.book.bears(daughter, 1540, 6), 1);
        int late = family.son(father, 1541, 1560);
        Due.is("a brother not born yet", family.book.bears(daughter, 1540, 6), 1);
        Due.is("the year of his birth", family.book.bears(daughter, 1541, 6), 0);
        Due.is("the year of his death", family.book.bears(daughter, 1560, 6), 0);
        Due.is("the year behind it", family.book.bears(daughter, 1561, 6), 1);
        family.son(late, 1558, 1570);
        Due.is("his line lives by a son", family.book.bears(daughter, 1570, 6), 0);
        Due.is("his line is dead", family.book.bears(daughter, 1571, 6), 1);
        Family halves = new Family();
        int one = halves.male(1500, 1540);
        int mother = halves.female(1500, 1560);
        int child = halves.daughter(one, 1530, 1590);
        int half = halves.male(1532, 1590);
        halves.mother(child, mother);
        halves.mother(half, mother);
        Due.is("a brother by the mother alone", halves.book.bears(child, 1550, 6), 1);
    }

    /** A father with arms 10 and a mother, heiress of arms 20 from 1540 on, and their son. */
    private static Family heiress() {
        Family family = new Family();
        family.male(1500, 1560);
        family.male(1490, 1540);
        family.daughter(1, 1510, 1570);
        family.son(0, 1530, 1590);
        family.mother(3, 2);
        family.grant(0, 10, 1500);
        family.grant(1, 20, 1500);
        return family;
    }

    private static void noTwoAlike() {
        Family family = heiress();
        Due.is("two unlike ones", family.quarters(3, 1545), "10 20");
        family.grant(3, 10, 1546);
        Due.is("one's own like the father's", family.quarters(3, 1546), "10 20");
        family.grant(0, 20, 1550);
        Due.is("the father's like the mother's", family.quarters(3, 1550), "20 10");
        family.grant(3, 20, 1555);
        Due.is("all alike", family.quarters(3, 1555), "20");
        Due.is("an empty row", family.quarters(3, 1499), "");
    }

    /** Sons one of another, each with arms of its own number and one. */
    private static Family grantedChain(int people) {
        Family family = new Family();
        for (int i = 0; i < people; i++) {
            int one = family.male(1000 + 20 * i, 1020 + 20 * i);
            if (i > 0) {
                family.father(one, one - 1);
            }
            family.grant(one, one + 1, 1000);
        }
        return family;
    }

    private static void atMostTwelve() {
        Family family = grantedChain(14);
        Due.is("eleven", family.quarters(10, 1500), "1 2 3 4 5 6 7 8 9 10 11");
        Due.is("twelve", family.quarters(11, 1500), "1 2 3 4 5 6 7 8 9 10 11 12");
        Due.is("the first twelve of thirteen", family.quarters(12, 1500), "1 2 3 4 5 6 7 8 9 10 11 12");
        Due.is("the first twelve of fourteen", family.quarters(13, 1500), "1 2 3 4 5 6 7 8 9 10 11 12");
        Due.is("how many of fourteen", family.book.quarter(13, 1500, NONE), 12);
        Due.noSuchElement("no thirteenth", () -> family.book.quarter(13, 1500, 12));
        int mother = family.daughter(13, 1280, 1320);
        int father = family.male(1280, 1340);
        int child = family.son(father, 1300, 1350);
        family.mother(child, mother);
        family.grant(father, 50, 1000);
        Due.is("one by the father, eleven of the mother's twelve", family.quarters(child, 1500),
                "50 1 2 3 4 5 6 7 8 9 10 11");
        family.grant(father, 1, 1001);
        Due.is("a mother's row has twelve, of which one is there", family.quarters(child, 1500),
                "1 2 3 4 5 6 7 8 9 10 11 12");
        family.grant(child, 60, 1000);
        Due.is("one by the father, one's own, ten of the mother's", family.quarters(child, 1500),
                "1 60 2 3 4 5 6 7 8 9 10 11");
    }

    private static void fromTheHighestDown() {
        Family family = grantedChain(3);
        Due.is("of the highest", family.quarters(0, 1500), "1");
        Due.is("of the second", family.quarters(1, 1500), "1 2");
        Due.is("of the third", family.quarters(2, 1500), "1 2 3");
        Family gap = new Family();
        int high = gap.male(1000, 1020);
        int middle = gap.son(high, 1020, 1040);
        int low = gap.son(middle, 1040, 1060);
        gap.grant(high, 5, 1000);
        gap.grant(low, 6, 1000);
        Due.is("past one without a grant", gap.quarters(low, 1000), "5 6");
        Due.is("of one without a grant", gap.quarters(middle, 1000), "5");
        Family cut = new Family();
        int alone = cut.male(1000, 1020);
        int other = cut.male(1020, 1040);
        cut.grant(alone, 5, 1000);
        cut.grant(other, 6, 1000);
        Due.is("the father is not told", cut.quarters(other, 1000), "6");
        cut.father(other, alone);
        Due.is("the father is told", cut.quarters(other, 1000), "5 6");
        Family longest = new Family();
        longest.male(1000, 1016);
        for (int i = 1; i < 60; i++) {
            longest.son(i - 1, 1000 + 16 * i, 1016 + 16 * i);
        }
        longest.grant(0, 5, 1000);
        longest.grant(59, 6, 1000);
        Due.is("59 fathers up", longest.quarters(59, 1000), "5 6");
    }

    private static void ownArms() {
        Family family = grantedChain(2);
        family.grant(0, 30, 1400);
        family.grant(1, 40, 1400);
        Due.is("ahead of all grants", family.quarters(1, 999), "");
        Due.is("by the first grants", family.quarters(1, 1399), "1 2");
        Due.is("by the latest grants alone", family.quarters(1, 1400), "30 40");
        Family middle = grantedChain(3);
        middle.grant(1, 50, 1300);
        Due.is("a father who is a root, too", middle.quarters(2, 1299), "1 2 3");
        Due.is("a father's next grant", middle.quarters(2, 1300), "1 50 3");
        Family later = new Family();
        int father = later.male(1500, 1560);
        int son = later.son(father, 1530, 1590);
        later.grant(father, 5, 1500);
        later.grant(son, 6, 1540);
        Due.is("the year ahead of one's own", later.quarters(son, 1539), "5");
        Due.is("the year of one's own", later.quarters(son, 1540), "5 6");
    }

    private static void motherIsHeiress() {
        Family family = heiress();
        Due.is("the year ahead of her father's death", family.quarters(3, 1539), "10");
        Due.is("the year of her father's death", family.quarters(3, 1540), "10 20");
        Due.is("her own", family.quarters(2, 1539), "20");
        Family untold = heiress();
        int child = untold.son(0, 1535, 1590);
        Due.is("the mother is not told", untold.quarters(child, 1540), "10");
        untold.mother(child, 2);
        Due.is("the mother is told", untold.quarters(child, 1540), "10 20");
        Family brothers = heiress();
        brothers.son(1, 1515, 1550);
        Due.is("her brother lives", brothers.quarters(3, 1550), "10");
        Due.is("her brother is dead", brothers.quarters(3, 1551), "10 20");
        Family noFather = heiress();
        int lone = noFather.female(1510, 1570);
        int son = noFather.son(0, 1530, 1590);
        noFather.mother(son, lone);
        noFather.grant(lone, 30, 1500);
        Due.is("a mother without a father is none", noFather.quarters(son, 1580), "10");
    }

    private static void motherDiedAsHeiress() {
        Family family = new Family();
        int father = family.male(1500, 1540);
        int mother = family.daughter(father, 1520, 1540);
        int child = family.male(1538, 1600);
        family.mother(child, mother);
        family.son(father, 1541, 1600);
        family.grant(father, 5, 1500);
        Due.is("the year ahead of both deaths", family.quarters(child, 1539), "");
        Due.is("the year of both deaths", family.quarters(child, 1540), "5");
        Due.is("no heiress any more", family.book.bears(mother, 1541, 6), 0);
        Due.is("but in the year in which she died", family.quarters(child, 1541), "5");
        Due.is("long behind", family.quarters(child, Integer.MAX_VALUE), "5");
        Family living = new Family();
        int old = living.male(1500, 1540);
        int lady = living.daughter(old, 1520, 1560);
        int heir = living.male(1538, 1600);
        living.mother(heir, lady);
        int late = living.son(old, 1541, 1559);
        living.grant(old, 5, 1500);
        Due.is("an heiress ahead of her brother's birth", living.quarters(heir, 1540), "5");
        Due.is("she lives and is none", living.quarters(heir, 1559), "");
        Due.is("she is one again when she dies", living.quarters(heir, 1560), "5");
        living.son(late, 1558, 1570);
        Due.is("she died as none", living.quarters(heir, 1570), "");
        Due.is("she is one now, though dead", living.quarters(heir, 1571), "5");
    }

    private static void mothersQuarters() {
        Family family = heiress();
        family.grant(2, 30, 1545);
        Due.is("the year ahead of her own grant", family.quarters(3, 1544), "10 20");
        Due.is("her father's ahead of her own", family.quarters(3, 1545), "10 20 30");
        family.grant(1, 40, 1550);
        Due.is("hers in that year", family.quarters(3, 1550), "10 40 30");
        family.grant(3, 50, 1555);
        Due.is("one's own ahead of hers", family.quarters(3, 1555), "10 50 40 30");
        int son = family.son(3, 1560, 1620);
        family.grant(son, 60, 1570);
        Due.is("the father's row ahead of one's own", family.quarters(son, 1570), "10 50 40 30 60");
        Family twice = heiress();
        int daughter = twice.daughter(0, 1531, 1600);
        twice.mother(daughter, 2);
        int child = twice.male(1555, 1620);
        twice.mother(child, daughter);
        Due.is("her brother lives", twice.quarters(child, 1590), "");
        Due.is("a mother's mother's, too", twice.quarters(child, 1591), "10 20");
    }

    private static void notOnceMore() {
        Family family = heiress();
        family.grant(2, 10, 1545);
        Due.is("the mother's like the father's", family.quarters(3, 1545), "10 20");
        Due.is("hers alone", family.quarters(2, 1545), "20 10");
        family.grant(3, 20, 1550);
        Due.is("one's own like hers comes first", family.quarters(3, 1550), "10 20");
        int wife = family.daughter(1, 1525, 1600);
        int child = family.son(3, 1555, 1620);
        family.mother(child, wife);
        Due.is("two heiresses of one father", family.quarters(child, 1590), "10 20");
    }

    private static void howMany() {
        Family family = heiress();
        Due.is("of no arms", family.book.quarter(3, 1499, NONE), 0);
        Due.is("one", family.book.quarter(3, 1500, NONE), 1);
        Due.is("two", family.book.quarter(3, 1540, NONE), 2);
        Due.is("the first", family.book.quarter(3, 1540, 0), 10);
        Due.is("the second", family.book.quarter(3, 1540, 1), 20);
        Family full = grantedChain(40);
        Due.is("of forty", full.book.quarter(39, 1500, NONE), 12);
        Due.is("the twelfth", full.book.quarter(39, 1500, 11), 12);
    }

    private static void noSuchQuarter() {
        Family family = heiress();
        for (int i : new int[] {Integer.MIN_VALUE, -3, -2, 2, 3, 11, 12, 13, 256, Integer.MAX_VALUE}) {
            Due.noSuchElement("quarter(3, 1540, " + i + ")", () -> family.book.quarter(3, 1540, i));
        }
        for (int i : new int[] {Integer.MIN_VALUE, -2, 0, 1, Integer.MAX_VALUE}) {
            Due.noSuchElement("of no arms, " + i, () -> family.book.quarter(3, 1499, i));
        }
        Family full = grantedChain(13);
        Due.noSuchElement("no thirteenth", () -> full.book.quarter(12, 1500, 12));
    }
}
