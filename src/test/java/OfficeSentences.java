import java.util.ArrayList;
import java.util.List;

/** The document's sentences on the tape, the texts of the office, faults, claims and fees. */
final class OfficeSentences {
    private static final int NONE = ArmsBook.NONE;
    private static final int LEAST = Integer.MIN_VALUE;
    private static final int MOST = Integer.MAX_VALUE;
    private static final String[] VERBS = {"refuse", "differ", "fee"};

    private OfficeSentences() {
    }

    static void test() {
        tokens();
        grammar();
        faults();
        claims();
        promises();
    }

    private static void tokens() {
        Sentence.holds("TEXTS of the office, from 0 on, at most 6,", OfficeSentences::atMostSix);
        Sentence.holds("each from a YEAR on; in force in a YEAR as GRANTS are.", OfficeSentences::inForce);
        Sentence.holds("A text has at most 400 bytes.", OfficeSentences::atMostFourHundredBytes);
        Sentence.holds("TOKENS: words (a .. z, the longest row),", OfficeSentences::words);
        Sentence.holds("NUMBERS (1 to 4 digits),", OfficeSentences::numbers);
        Sentence.holds("signs ( ) ; + - < = ;", OfficeSentences::signs);
        Sentence.holds("blanks (32, 10) between them count for nothing.", OfficeSentences::blanks);
    }

    private static void grammar() {
        Sentence.holds("TEXT: RULE*.", OfficeSentences::noRule);
        Sentence.holds("RULE: ('refuse' | 'differ' | 'fee') EXPR ';'.", OfficeSentences::rule);
        Sentence.holds("EXPR: TEST (('and' | 'or') TEST)* (from the left, of one strength).", OfficeSentences::expression);
        Sentence.holds("TEST: ['not'] SUM [('<' | '=') SUM].", OfficeSentences::oneTest);
        Sentence.holds("SUM: PART (('+' | '-') PART)* (from the left).", OfficeSentences::sum);
        Sentence.holds("PART: NUMBER | NAME | '(' EXPR ')'.", OfficeSentences::part);
        Sentence.holds("NAMES: grade, steps, year, born, female, marks (how many MARKS are above 1), rivals, quarters.",
                OfficeSentences::names);
        Sentence.holds("Ints;", OfficeSentences::ints);
        Sentence.holds("tests, and, or, not are 1 or 0 (and, or: of numbers that are not 0; not: 1 of 0, else 0, "
                + "of all of its TEST).", OfficeSentences::oneOrNought);
    }

    private static void faults() {
        Sentence.holds("FAULTS, the first along the text, at a TOKEN's first byte:", OfficeSentences::firstFault);
        Sentence.holds("1 a TOKEN that can't stand there, or is none", OfficeSentences::outOfPlace);
        Sentence.holds("(the text's length where it ends too soon);", OfficeSentences::endsTooSoon);
        Sentence.holds("2 one that can, but is too much: a NUMBER of 5 digits or more,", OfficeSentences::fiveDigits);
        Sentence.holds("the first TOKEN of the 13th RULE,", OfficeSentences::thirteenthRule);
        Sentence.holds("of an EXPR within 6 others;", OfficeSentences::withinSixOthers);
        Sentence.holds("3 a word, where a NAME can stand, that is no NAME.", OfficeSentences::noName);
    }

    private static void claims() {
        Sentence.holds("A CLAIM of one for ARMS in a YEAR: 1 they aren't one's ARMS then (none, too);",
                OfficeSentences::otherArms);
        Sentence.holds("2 one isn't LIVING;", OfficeSentences::notLiving);
        Sentence.holds("3 some EXPR of a 'refuse' isn't 0;", OfficeSentences::refused);
        Sentence.holds("4 some EXPR of a 'differ' isn't 0, and one is not PLAIN;", OfficeSentences::notPlain);
        Sentence.holds("else 0: allowed.", OfficeSentences::allowed);
        Sentence.holds("FEE: the sum of all 'fee's.", OfficeSentences::sumOfFees);
    }

    private static void promises() {
        Sentence.holds("Twenty bytes come behind the tape, of each number the highest first: how many it has;",
                OfficeSentences::twentyBytes);
        Sentence.holds("NONE, and none come, if it would have more than 400.", OfficeSentences::fullTape);
        Sentence.holds("The tape's first n bytes (it is empty then) are a text from a YEAR on: its number,",
                OfficeSentences::firstBytes);
        Sentence.holds("or - 1 - its FAULT;", OfficeSentences::faultAnswers);
        Sentence.holds("-9: there are 6.", OfficeSentences::sixTexts);
        Sentence.holds("IllegalArgumentException: the tape has not so many, n below 0, no such YEAR (nothing changes).",
                OfficeSentences::wrongText);
        Sentence.holds("The place of the latest text()'s FAULT; NONE without.", OfficeSentences::latestFault);
        Sentence.holds("A CLAIM: 0 to 4.", OfficeSentences::claimAnswers);
        Sentence.holds("FEE of a claim by one in a YEAR, by the text in force (0 without one, or without ARMS).",
                OfficeSentences::feeInForce);
    }

    private static String times(String words, int n) {
        return words.repeat(n);
    }

    /** The word with each letter put otherwise or left out, and with one more at either end. */
    private static List<String> likeWords(String word) {
        List<String> found = new ArrayList<>();
        for (int i = 0; i < word.length(); i++) {
            found.add(word.substring(0, i) + "z" + word.substring(i + 1));
            found.add(word.substring(0, i) + word.substring(i + 1));
        }
        found.add(word + "z");
        found.add("z" + word);
        return found;
    }

    /** A root 0 with the sons 1 and 2, 2 the younger; arms 7 from 1500 on. */
    private static Family sons() {
        Family family = new Family();
        family.male(1480, 1550);
        family.son(0, 1510, 1590);
        family.male(1512, 1600);
        family.father(2, 0, 4);
        family.grant(0, 7, 1500);
        return family;
    }

    private static void atMostSix() {
        ArmsBook book = new ArmsBook();
        for (int i = 0; i < 6; i++) {
            Due.is("text " + i, Written.text(book, "fee " + i + ";", 1500), i);
        }
        Due.is("one more", Written.text(book, "fee 6;", 1500), -9);
        Due.is("how many", book.count(2), 6);
        book.person(false, 1500, 1560);
        book.grant(0, 7, 1500);
        Due.is("the sixth is in force", book.fee(0, 1500), 5);
    }

    private static void inForce() {
        Family family = sons();
        family.text("fee 5;", 1540);
        family.text("fee 6;", 1520);
        Due.is("a year ahead of all", family.book.fee(0, 1519), 0);
        Due.is("from its year on", family.book.fee(0, 1520), 6);
        Due.is("a year ahead of the next", family.book.fee(0, 1539), 6);
        Due.is("the latest, though told first", family.book.fee(0, 1540), 5);
        Due.is("in the greatest year", family.book.fee(0, MOST), 5);
        family.text("fee 7;", 1540);
        Due.is("of like ones the later told", family.book.fee(0, 1540), 7);
        Due.is("the earlier one still", family.book.fee(0, 1539), 6);
        family.text("", 1545);
        Due.is("an empty one is in force, too", family.book.fee(0, 1545), 0);
        Family edges = new Family();
        edges.male(1000, 1100);
        edges.grant(0, 7, 1000);
        edges.text("fee 1;", 1000);
        edges.text("fee 2;", 2000);
        Due.is("in the first year", edges.book.fee(0, 1000), 1);
        Due.is("a year ahead of the last", edges.book.fee(0, 1999), 1);
        Due.is("in the last year", edges.book.fee(0, 2000), 2);
    }

    private static void atMostFourHundredBytes() {
        Written.faultless("fee 1" + times("+1", 197) + ";");
        Written.faultless(times(" ", 394) + "fee 1;");
        Written.faulty("fee 1" + times("+1", 197) + "+", 1, 400);
        Written.faulty("fee 1;" + times(" ", 393) + "x", 1, 399);
        Written.faulty(times(" ", 399) + ";", 1, 399);
        Written.faulty(times("z", 400), 1, 0);
        Written.faulty("fee " + times("9", 396), 2, 4);
        Family family = sons();
        family.text("fee 1" + times("+1", 197) + ";", 1500);
        Due.is("the longest sum", family.book.fee(0, 1500), 198);
    }

    private static void words() {
        Written.faulty("fee a;", 3, 4);
        Written.faulty("fee z;", 3, 4);
        Written.faulty("fee `;", 1, 4);
        Written.faulty("fee {;", 1, 4);
        Written.faulty("fee A;", 1, 4);
        Written.faulty("fee Z;", 1, 4);
        Written.faulty("Fee 1;", 1, 0);
        Written.faulty("feegrade;", 1, 0);
        Written.faulty("fee gradeborn;", 3, 4);
        Written.faulty("fee 1 andor 1;", 1, 6);
        Written.faulty("fee notgrade;", 3, 4);
        Written.faulty("fee grade_;", 1, 9);
        Written.faulty("fee gr" + (char) 225 + "de;", 3, 4);
        Written.faultless("fee not grade;");
        Written.faultless("fee1and2;");
    }

    private static void numbers() {
        Written.worth("0", 0);
        Written.worth("9", 9);
        Written.worth("10", 10);
        Written.worth("999", 999);
        Written.worth("1234", 1234);
        Written.worth("9999", 9999);
        Written.worth("0000", 0);
        Written.worth("0090", 90);
        Written.faulty("fee 10000;", 2, 4);
        Written.faulty("fee 12 34;", 1, 7);
        Written.faulty("fee /;", 1, 4);
        Written.faulty("fee :;", 1, 4);
        Written.faulty("fee 1.5;", 1, 5);
        Written.faulty("fee 1234x;", 1, 8);
    }

    private static void signs() {
        Written.faultless("fee(1)+(2)-(3)<(4);fee(1)=2;");
        String known = "();+-<=";
        for (int sign = 33; sign < 256; sign++) {
            boolean isOther = known.indexOf(sign) < 0 && !Character.isDigit(sign) && !(sign >= 'a' && sign <= 'z');
            if (isOther) {
                Written.faulty("fee 1" + (char) sign + "1;", 1, 5);
                Written.faulty((char) sign + "fee 1;", 1, 0);
            }
        }
        Written.faulty("fee 1=<2;", 1, 6);
        Written.faulty("fee 1==2;", 1, 6);
        Written.faulty("fee 1>2;", 1, 5);
    }

    private static void blanks() {
        Written.faultless("  fee \n 1 \n; \n");
        Written.faultless("\nfee\n1\n;\n");
        Written.faultless("fee 1;fee 2;");
        Written.faulty("fe e 1;", 1, 0);
        Written.faulty("fee gra\nde;", 3, 4);
        Written.faulty("fee 1 1;", 1, 6);
        for (int sign = 0; sign < 33; sign++) {
            if (sign != 10 && sign != 32) {
                Written.faulty("fee" + (char) sign + "1;", 1, 3);
            }
        }
        Written.faulty("fee" + (char) 160 + "1;", 1, 3);
    }

    private static void noRule() {
        Written.faultless("");
        Written.faultless(" ");
        Written.faultless(times("\n", 400));
        Written.faultless("fee 1;");
        Written.faultless(times("fee 1;", 12));
        Family family = sons();
        family.text("", 1500);
        Due.is("nothing is refused by it", family.book.claim(2, 7, 1520), 0);
        Due.is("no fee by it", family.book.fee(2, 1520), 0);
    }

    private static void rule() {
        for (String verb : VERBS) {
            Written.faultless(verb + " 1;");
            Written.faulty(verb + ";", 1, verb.length());
            Written.faulty(verb + " 1", 1, verb.length() + 2);
            Written.faulty(verb + " 1;;", 1, verb.length() + 3);
            for (String like : likeWords(verb)) {
                Written.faulty(like + " 1;", 1, 0);
            }
        }
        Written.faulty("1;", 1, 0);
        Written.faulty(";", 1, 0);
        Written.faulty("and 1;", 1, 0);
        Written.faulty("not 1;", 1, 0);
        Written.faulty("grade 1;", 1, 0);
        Written.faulty("bogus 1;", 1, 0);
        Written.faulty("fee 1 fee 1;", 1, 6);
    }

    private static void expression() {
        Written.worth("1 or 1 and 0", 0);
        Written.worth("1 or (1 and 0)", 1);
        Written.worth("0 and 0 or 1", 1);
        Written.worth("0 and (0 or 1)", 0);
        Written.worth("1 and 1" + times(" and 1", 61), 1);
        Written.worth("0" + times(" or 0", 76) + " or 1", 1);
        for (String word : new String[] {"and", "or"}) {
            for (String like : likeWords(word)) {
                Written.faulty("fee 1 " + like + " 1;", 1, 6);
            }
        }
        Written.faulty("fee 1 and;", 1, 9);
        Written.faulty("fee and 1;", 3, 4);
        Written.faulty("fee 1 and or 1;", 3, 10);
    }

    private static void oneTest() {
        Written.worth("not 0", 1);
        Written.worth("0<1", 1);
        Written.worth("1<1", 0);
        Written.worth("1=1", 1);
        Written.worth("0=1", 0);
        Written.worth("not 1<1", 1);
        Written.worth("1 and not 0", 1);
        for (String like : likeWords("not")) {
            Written.faulty("fee " + like + " 1;", 3, 4);
        }
        Written.faulty("fee 1<2<3;", 1, 7);
        Written.faulty("fee 1=2=3;", 1, 7);
        Written.faulty("fee 1<2=3;", 1, 7);
        Written.faulty("fee 1<;", 1, 6);
        Written.faulty("fee <1;", 1, 4);
        Written.faulty("fee not not 1;", 3, 8);
        Written.faulty("fee 1<not 1;", 3, 6);
        Written.faulty("fee 1+not 1;", 3, 6);
        Written.faulty("fee not;", 1, 7);
    }

    private static void sum() {
        Written.worth("10-3-4", 3);
        Written.worth("10-(3-4)", 11);
        Written.worth("10-3+4", 11);
        Written.worth("0-1", -1);
        Written.worth("1+2<2+2", 1);
        Written.worth("3-1=1+1", 1);
        Written.worth("1" + times("-1", 197), -196);
        Written.faulty("fee -1;", 1, 4);
        Written.faulty("fee +1;", 1, 4);
        Written.faulty("fee 1--1;", 1, 6);
        Written.faulty("fee 1+;", 1, 6);
    }

    private static void part() {
        Written.worth("(((((7)))))", 7);
        Written.worth("(1<2)+(1=1)+(not 0)+(1 or 0)", 4);
        Written.worth("(born)", 1500);
        // As many numbers wait for their operators as ever can: three in each of six expressions, and the last.
        Written.worth(times("1 and 2<3+(", 5) + "1 and 2<3+4" + times(")", 5), 1);
        Written.worth(times("not 0 and 2=3-(", 5) + "0 or 5=9-4" + times(")", 5), 1);
        Written.faulty("fee ();", 1, 5);
        Written.faulty("fee (1;", 1, 6);
        Written.faulty("fee 1);", 1, 5);
        Written.faulty("fee (1 2);", 1, 7);
        Written.faulty("fee (1)(2);", 1, 7);
        Written.faulty("fee (1;);", 1, 6);
        Written.faulty("fee 1(2);", 1, 5);
    }

    /** The sons' family with 2's daughter 3, who has arms of her own later, and a rival 4. */
    private static Family kin() {
        Family family = sons();
        family.father(family.female(1540, 1600), 2, 6);
        family.grant(family.male(1500, 1560), 7, 1505);
        family.grant(3, 9, 1580);
        return family;
    }

    private static void names() {
        String[] names = {"grade", "steps", "year", "born", "female", "marks", "rivals", "quarters"};
        int[] ofDaughter = {4, 2, 1550, 1540, 1, 1, 1, 1};
        int[] later = {9, 0, 1590, 1540, 1, 0, 0, 2};
        int[] ofRoot = {9, 0, 1504, 1480, 0, 0, 0, 1};
        for (int i = 0; i < names.length; i++) {
            Family family = kin();
            family.text("fee " + names[i] + ";", 1500);
            Due.is(names[i] + " of two steps", family.book.fee(3, 1550), ofDaughter[i]);
            Due.is(names[i] + " with a grant of her own", family.book.fee(3, 1590), later[i]);
            Due.is(names[i] + " of the root", family.book.fee(0, 1504), ofRoot[i]);
            for (String like : likeWords(names[i])) {
                Written.faulty("fee " + like + ";", 3, 4);
            }
        }
        namesOfTheVeryYear();
        Family deep = sons();
        int third = deep.son(0, 1513, 1600);
        deep.son(third, 1540, 1600);
        int second = deep.son(third, 1541, 1600);
        int only = deep.son(second, 1560, 1620);
        deep.text("fee marks;", 1500);
        Due.is("marks 3", deep.book.fee(third, 1560), 1);
        Due.is("marks 3 2 1", deep.book.fee(only, 1560), 2);
    }

    /** What one name is worth of one in the year ahead of a change, and in the year of it. */
    private static void changes(String name, int person, int year, int ahead, int then) {
        Family family = kin();
        family.text("fee " + name + "; refuse not " + name + "=" + then + ";", 1500);
        Due.is(name + " in the year ahead of " + year, family.book.fee(person, year - 1), ahead);
        Due.is(name + " in " + year, family.book.fee(person, year), then);
        int arms = family.book.bears(person, year, 0);
        Due.is("a claim by its " + name + " in " + year, family.book.claim(person, arms, year), 0);
        int armsAhead = family.book.bears(person, year - 1, 0);
        Due.is("a claim by its " + name + " in the year ahead", family.book.claim(person, armsAhead, year - 1), 3);
    }

    private static void namesOfTheVeryYear() {
        changes("grade", 3, 1580, 4, 9);
        changes("steps", 3, 1580, 2, 0);
        changes("year", 3, 1580, 1579, 1580);
        changes("marks", 3, 1580, 1, 0);
        changes("rivals", 0, 1505, 0, 1);
        changes("rivals", 3, 1580, 1, 0);
        changes("quarters", 3, 1580, 1, 2);
        // From the year of her father's death on the mother is an heiress; she brings other arms then.
        Family family = sons();
        int grandfather = family.male(1500, 1560);
        family.grant(grandfather, 8, 1505);
        int mother = family.daughter(grandfather, 1525, 1600);
        int grandson = family.son(1, 1550, 1620);
        family.mother(grandson, mother);
        family.text("fee quarters;", 1500);
        Due.is("quarters in the year ahead of 1560", family.book.fee(grandson, 1559), 1);
        Due.is("quarters in 1560", family.book.fee(grandson, 1560), 2);
    }

    private static void ints() {
        Written.worthIn(MOST, "year", MOST);
        Written.worthIn(MOST, "year+1", LEAST);
        Written.worthIn(MOST, "year+year", -2);
        Written.worthIn(MOST, "0-year-1", LEAST);
        Written.worthIn(MOST, "0-year-2", MOST);
        Written.worthIn(MOST, "year+1<year", 1);
        Written.worthIn(MOST, "year<year+1", 0);
        Written.worthIn(MOST, "year+year+2=0", 1);
        Written.worthIn(MOST, "not year+year+2", 1);
        Written.worthIn(MOST, "year+1 and 1", 1);
        Written.worthIn(MOST, "(0-year-1)<year", 1);
    }

    private static void oneOrNought() {
        Written.worth("5 and 3", 1);
        Written.worth("5 and 0", 0);
        Written.worth("0 and 5", 0);
        Written.worth("0 and 0", 0);
        Written.worth("2 and 1", 1);
        Written.worth("5 or 0", 1);
        Written.worth("0 or 7", 1);
        Written.worth("4 or 4", 1);
        Written.worth("0 or 0", 0);
        Written.worth("(0-1) and (0-1)", 1);
        Written.worth("0-1 or 0", 1);
        Written.worth("not 0", 1);
        Written.worth("not 1", 0);
        Written.worth("not 5", 0);
        Written.worth("not 0-1", 0);
        Written.worth("not 1-1", 1);
        Written.worth("not 1+1", 0);
        Written.worth("not 0<1", 0);
        Written.worth("not 1<0", 1);
        Written.worth("not 0=1", 1);
        Written.worth("not 0 and 0", 0);
        Written.worth("not 1 or 1", 1);
        Written.worth("0-1<0", 1);
        Written.worth("0<0-1", 0);
        Written.worth("7=7", 1);
    }

    private static void firstFault() {
        Written.faulty("fee x+12345;", 3, 4);
        Written.faulty("fee 12345+x;", 2, 4);
        Written.faulty("fee )x;", 1, 4);
        Written.faulty("fee 1+   bogus;", 3, 9);
        Written.faulty("fee 1+\n\n123456;", 2, 8);
        Written.faulty("fee 1   grade;", 1, 8);
        Written.faulty("  bogus", 1, 2);
        Written.faulty("fee 1; fee 2; fee x; bogus", 3, 18);
        Written.faulty(times("fee 1;", 12) + "fee x;", 2, 72);
        Written.faulty("fee x;" + times("fee 1;", 12), 3, 4);
        Written.faulty("fee 1 ? ", 1, 6);
    }

    private static void outOfPlace() {
        Written.faulty("?", 1, 0);
        Written.faulty("fee ?;", 1, 4);
        Written.faulty("fee 1?", 1, 5);
        Written.faulty("fee 1; 1", 1, 7);
        Written.faulty("fee 1 not 1;", 1, 6);
        Written.faulty("fee 1 bogus;", 1, 6);
        Written.faulty("fee 1 12345;", 1, 6);
        Written.faulty("fee 1 (", 1, 6);
        Written.faulty("fee ;", 1, 4);
        Written.faulty("fee =1;", 1, 4);
        Written.faulty("12345", 1, 0);
        Written.faulty("fee 1;12345", 1, 6);
    }

    private static void endsTooSoon() {
        Written.faulty("fee", 1, 3);
        Written.faulty("fee  \n", 1, 6);
        Written.faulty("fee 1", 1, 5);
        Written.faulty("fee 1  ", 1, 7);
        Written.faulty("fee 1+", 1, 6);
        Written.faulty("fee (", 1, 5);
        Written.faulty("fee (1", 1, 6);
        Written.faulty("fee (1)", 1, 7);
        Written.faulty("fee not", 1, 7);
        Written.faulty("fee 1;fee", 1, 9);
        Written.faulty("fee 1" + times(" ", 395), 1, 400);
        ArmsBook book = new ArmsBook();
        Written.feed(book, "fee 12345;");
        Due.is("cut within a number", book.text(8, 1500), -2);
        Due.is("its place", book.fault(), 8);
        Written.feed(book, "fee 1;");
        Due.is("cut within a word", book.text(2, 1500), -2);
        Due.is("its place, where 'fe' begins", book.fault(), 0);
        Written.feed(book, "fee grade;");
        Due.is("cut within a name", book.text(8, 1500), -4);
        Due.is("its place, where 'grad' begins", book.fault(), 4);
    }

    private static void fiveDigits() {
        Written.faultless("fee 9999;");
        Written.faulty("fee 10000;", 2, 4);
        Written.faulty("fee 99999;", 2, 4);
        Written.faulty("fee 00000;", 2, 4);
        Written.faulty("fee 00001;", 2, 4);
        Written.faulty("fee 4294967297;", 2, 4);
        Written.faulty("fee 1+" + times("1", 300) + ";", 2, 6);
        Written.faulty("fee 12345", 2, 4);
        Written.faulty("fee (12345", 2, 5);
        Written.faulty("fee not 12345", 2, 8);
        Written.faulty("fee 1<12345", 2, 6);
        Written.faulty("fee 1 and 12345", 2, 10);
        Written.faulty("fee 1 12345;", 1, 6);
    }

    private static void thirteenthRule() {
        Written.faultless(times("fee 1;", 12));
        Written.faultless(times("fee 1;", 12) + " \n");
        for (String verb : VERBS) {
            Written.faulty(times("fee 1;", 12) + verb + " 1;", 2, 72);
            Written.faulty(times("fee 1;", 12) + " " + verb, 2, 73);
            Written.faulty(times(verb + " 1;", 13), 2, 12 * (verb.length() + 3));
        }
        Written.faulty(times("fee 1;", 20), 2, 72);
        Written.faulty(times("fee 1;", 12) + "bogus", 1, 72);
        Written.faulty(times("fee 1;", 12) + ";", 1, 72);
        Family family = sons();
        family.text(times("fee 1;", 11) + "refuse 1;", 1500);
        Due.is("all eleven fees count", family.book.fee(0, 1500), 11);
        Due.is("the twelfth rule counts", family.book.claim(0, 7, 1500), 3);
    }

    private static void withinSixOthers() {
        String five = times("(", 5) + "1" + times(")", 5);
        Written.worth(five, 1);
        Written.faulty("fee (" + five + ");", 2, 10);
        Written.faulty("fee ((" + five + "));", 2, 10);
        Written.faulty("fee " + times("(", 396), 2, 10);
        Written.faulty("fee " + times("( ", 6) + " 1", 2, 17);
        Written.faulty("fee " + times("(", 6) + "not 1", 2, 10);
        Written.faulty("fee " + times("(", 6) + "born", 2, 10);
        Written.faulty("fee " + times("(", 6) + "12345", 2, 10);
        Written.faulty("fee " + times("(", 6) + "bogus", 3, 10);
        Written.faulty("fee " + times("(", 6) + ")", 1, 10);
        Written.faulty("fee " + times("(", 6), 1, 10);
        Written.faulty("fee " + times("1+(", 6) + "1", 2, 22);
        Written.faulty("fee " + times("1 and not 1<(", 6) + "1", 2, 82);
        Written.worth(five + "+" + five + "+" + five, 3);
        Written.worth("1 and not 2<" + five + " and " + five, 1);
        Written.faultless("fee " + five + ";fee " + five + ";");
        Written.faulty("fee " + five + "+(" + five + ");", 2, 22);
        Written.faulty("fee " + five + ";fee (" + five + ");", 2, 26);
    }

    private static void noName() {
        Written.faulty("fee x;", 3, 4);
        Written.faulty("fee 1+x;", 3, 6);
        Written.faulty("fee (x);", 3, 5);
        Written.faulty("fee not x;", 3, 8);
        Written.faulty("fee 1<x;", 3, 6);
        Written.faulty("fee 1 or x;", 3, 9);
        Written.faulty("fee grades;", 3, 4);
        Written.faulty("fee grad;", 3, 4);
        Written.faulty("fee and;", 3, 4);
        Written.faulty("fee refuse;", 3, 4);
        Written.faulty("fee fee 1;", 3, 4);
        Written.faulty("fee 1+not 1;", 3, 6);
        Written.faulty("x 1;", 1, 0);
        Written.faulty("fee 1 x;", 1, 6);
        Written.faulty("fee (1 x;", 1, 7);
        Written.faultless("fee grade+steps+year+born+female+marks+rivals+quarters;");
    }

    private static void otherArms() {
        Family family = sons();
        family.text("refuse 1;", 1500);
        Due.is("a year ahead of the grant", family.book.claim(0, 7, 1499), 1);
        Due.is("the year of the grant", family.book.claim(0, 7, 1500), 3);
        for (int arms : new int[] {LEAST, -1, 0, 6, 8, 99, 100, 256 + 7, MOST}) {
            Due.is("arms " + arms, family.book.claim(0, arms, 1510), 1);
            Due.is("arms " + arms + " without any", family.book.claim(0, arms, 1499), 1);
            Due.is("arms " + arms + " when not living", family.book.claim(0, arms, 1700), 1);
        }
        family.grant(0, 9, 1520);
        Due.is("those one had", family.book.claim(0, 7, 1520), 1);
        Due.is("those one has", family.book.claim(0, 9, 1520), 3);
    }

    private static void notLiving() {
        Family family = sons();
        family.text("refuse 1;", 1000);
        Due.is("a year ahead of birth", family.book.claim(1, 7, 1509), 2);
        Due.is("the year of birth", family.book.claim(1, 7, 1510), 3);
        Due.is("the year of death", family.book.claim(1, 7, 1590), 3);
        Due.is("a year behind it", family.book.claim(1, 7, 1591), 2);
        Due.is("in the greatest year", family.book.claim(1, 7, MOST), 2);
    }

    /** What a claim of 2, who is not plain, and of 1, who is, is answered under a text. */
    private static void judged(String words, int ofSecond, int ofFirst) {
        Family family = sons();
        family.text(words, 1500);
        Due.is("'" + words + "', not plain", family.book.claim(2, 7, 1540), ofSecond);
        Due.is("'" + words + "', plain", family.book.claim(1, 7, 1540), ofFirst);
    }

    private static void refused() {
        judged("refuse 0;", 0, 0);
        judged("refuse 1;", 3, 3);
        judged("refuse 2;", 3, 3);
        judged("refuse 0-1;", 3, 3);
        judged("refuse 1; refuse 0;", 3, 3);
        judged("refuse 0; refuse 1;", 3, 3);
        judged("refuse 0; refuse 0;", 0, 0);
        judged("refuse 1; refuse 0-1;", 3, 3);
        judged("differ 1; refuse 1;", 3, 3);
        judged("refuse grade<5;", 3, 0);
        judged("refuse 0; fee 1;", 0, 0);
        judged("refuse 0; differ 1;", 4, 0);
    }

    private static void notPlain() {
        judged("differ 0;", 0, 0);
        judged("differ 1;", 4, 0);
        judged("differ 0-5;", 4, 0);
        judged("differ 0; differ 1;", 4, 0);
        judged("differ 1; differ 0;", 4, 0);
        judged("differ 1; differ 0-1;", 4, 0);
        judged("differ 0; differ 0;", 0, 0);
        Family family = sons();
        family.text("differ 1;", 1500);
        Due.is("a root", family.book.claim(0, 7, 1540), 0);
        Due.is("the year of the brother's death", family.book.claim(2, 7, 1590), 4);
        Due.is("the brother is dead", family.book.claim(2, 7, 1591), 0);
    }

    private static void allowed() {
        judged("", 0, 0);
        judged("fee 5;", 0, 0);
        Family family = sons();
        Due.is("without a text", family.book.claim(2, 7, 1540), 0);
        family.text("refuse 1;", 1541);
        Due.is("a year ahead of the text", family.book.claim(2, 7, 1540), 0);
        Due.is("the text's year", family.book.claim(2, 7, 1541), 3);
        family.text("", 1542);
        Due.is("by an empty text", family.book.claim(2, 7, 1542), 0);
        family.text("differ 1;", 1543);
        Due.is("not by one that differs", family.book.claim(2, 7, 1543), 4);
        Due.is("by the empty text again", family.book.claim(2, 7, 1542), 0);
    }

    private static void fees(String words, int year, int due) {
        Family family = sons();
        family.text(words, 1500);
        Due.is("'" + words + "' in " + year, family.book.fee(0, year), due);
    }

    private static void sumOfFees() {
        fees("", 1540, 0);
        fees("refuse 5; differ 6;", 1540, 0);
        fees("fee 5;", 1540, 5);
        fees("fee 5; refuse 100; fee 7; differ 1000; fee 1-4;", 1540, 9);
        fees("fee 0-5;", 1540, -5);
        fees(times("fee 9999;", 12), 1540, 12 * 9999);
        fees("fee year; fee 1;", MOST, LEAST);
        fees("fee year; fee year;", MOST, -2);
        fees("fee 0-year; fee 0-2;", MOST, MOST);
    }

    private static void twentyBytes() {
        ArmsBook book = new ArmsBook();
        for (int i = 1; i <= 20; i++) {
            Due.is("feed " + i, book.feed(0, LEAST, MOST, -1, i), 20 * i);
        }
        ArmsBook order = new ArmsBook();
        order.feed('f' << 24 | 'e' << 16 | 'e' << 8 | ' ', '1' << 24 | '2' << 16 | '3' << 8 | '4',
                ';' << 24 | 'f' << 16 | 'e' << 8 | 'e', '5' << 24 | '6' << 16 | ' ' << 8 | '+',
                ' ' << 24 | '\n' << 16 | '7' << 8);
        Due.is("behind the first twenty", order.feed(';' << 24, 0, 0, 0, 0), 40);
        Due.is("a byte of 0 is no token", order.text(20, 1500), -2);
        Due.is("its place", order.fault(), 19);
        order.feed('f' << 24 | 'e' << 16 | 'e' << 8 | ' ', '1' << 24 | '2' << 16 | '3' << 8 | '4',
                ';' << 24 | 'f' << 16 | 'e' << 8 | 'e', '5' << 24 | '6' << 16 | ' ' << 8 | '+',
                ' ' << 24 | '\n' << 16 | '7' << 8 | '8');
        order.feed(';' << 24, 0, 0, 0, 0);
        Due.is("twenty-one bytes", order.text(21, 1500), 0);
        order.person(false, 1500, 1560);
        order.grant(0, 1, 1500);
        Due.is("its fee", order.fee(0, 1500), 1234 + 56 + 78);
        order.feed(0xFFFFFFFF, 0, 0, 0, 0);
        Due.is("a byte of 255 is no token", order.text(1, 1500), -2);
    }

    private static void fullTape() {
        ArmsBook nearly = new ArmsBook();
        Written.feed(nearly, times("fee 1;    ", 38));
        Due.is("380 bytes", nearly.count(4), 380);
        Due.is("to 400", nearly.feed(0, 0, 0, 0, 0), 400);
        Due.is("none more", nearly.feed(0, 0, 0, 0, 0), NONE);
        Due.is("still 400", nearly.count(4), 400);
        ArmsBook full = new ArmsBook();
        int length = Written.feed(full, "fee 1" + times("+1", 197) + ";");
        Due.is("full", full.count(4), length);
        Due.is("refused", full.feed(-1, -1, -1, -1, -1), NONE);
        Due.is("refused again", full.feed(0, 0, 0, 0, 0), NONE);
        Due.is("no byte came", full.text(400, 1500), 0);
        Due.is("the tape is empty", full.count(4), 0);
        Due.is("it can be fed again", full.feed(0, 0, 0, 0, 0), 20);
    }

    private static void firstBytes() {
        ArmsBook book = new ArmsBook();
        Due.is("no byte of none", book.text(0, 1000), 0);
        book.feed(0, 0, 0, 0, 0);
        Due.is("no byte of twenty", book.text(0, 2000), 1);
        Due.is("the tape is empty", book.count(4), 0);
        Written.feed(book, "fee 1; fee 2; bogus bogus");
        Due.is("thirteen bytes of forty", book.text(13, 1500), 2);
        Due.is("the rest is gone", book.count(4), 0);
        Written.feed(book, "fee 1;");
        Due.is("all of twenty", book.text(20, 1500), 3);
        Written.feed(book, times("fee 1;", 12));
        Due.is("one rule of twelve", book.text(6, 1500), 4);
        book.person(false, 1500, 1560);
        book.grant(0, 7, 1500);
        Due.is("its fee", book.fee(0, 1500), 1);
        Written.feed(book, "fee bogus;");
        Due.is("a fault", book.text(10, 1500), -4);
        Due.is("the tape is empty behind a fault", book.count(4), 0);
        Due.is("the number goes on", Written.text(book, "fee 1;", 1500), 5);
    }

    private static void faultAnswers() {
        ArmsBook book = new ArmsBook();
        Due.is("fault 1", Written.text(book, "fee", 1500), -2);
        Due.is("fault 2", Written.text(book, "fee 12345;", 1500), -3);
        Due.is("fault 3", Written.text(book, "fee x;", 1500), -4);
        Due.is("no text came", book.count(2), 0);
        Due.is("no byte is left", book.count(4), 0);
        Family family = sons();
        family.text("fee 1;", 1500);
        Written.text(family.book, "fee 2; fee x;", 1500);
        Due.is("a text with a fault is never in force", family.book.fee(0, 1500), 1);
    }

    private static void sixTexts() {
        Family family = sons();
        for (int i = 0; i < 6; i++) {
            family.text("fee 1;", 1500);
        }
        Due.is("a seventh", Written.text(family.book, "fee 2;", 1500), -9);
        Due.is("its tape is empty", family.book.count(4), 0);
        Due.is("no fault", family.book.fault(), NONE);
        Due.is("a seventh of no bytes", family.book.text(0, 1500), -9);
        Due.is("a seventh with a fault", Written.text(family.book, "fee x;", 1500), -9);
        Due.is("no fault still", family.book.fault(), NONE);
        Due.illegalArgument("a seventh of bytes that aren't there", () -> family.book.text(1, 1500));
        Due.illegalArgument("a seventh of no such year", () -> family.book.text(0, 999));
        Due.is("how many", family.book.count(2), 6);
        Due.is("the sixth stays in force", family.book.fee(0, 1500), 1);
    }

    private static void wrongText() {
        Family family = sons();
        family.text("fee 1;", 1500);
        Written.text(family.book, "fee 1; x", 1500);
        Written.feed(family.book, "fee 2;");
        for (int n : new int[] {LEAST, -2, -1, 21, 22, 400, 401, MOST}) {
            Due.illegalArgument("text(" + n + ", 1500)", () -> family.book.text(n, 1500));
        }
        for (int year : new int[] {LEAST, -1, 0, 999, 2001, 65536 + 1500, MOST}) {
            Due.illegalArgument("text(6, " + year + ")", () -> family.book.text(6, year));
            Due.illegalArgument("text(-1, " + year + ")", () -> family.book.text(-1, year));
        }
        Due.is("the tape has what it had", family.book.count(4), 20);
        Due.is("the fault stays", family.book.fault(), 7);
        Due.is("no text came", family.book.count(2), 1);
        Due.is("the fee stays", family.book.fee(0, 1500), 1);
        Due.is("the tape's bytes stay", family.book.text(20, 2000), 1);
        Due.is("that text from its year on", family.book.fee(0, 2000), 2);
        ArmsBook empty = new ArmsBook();
        Due.illegalArgument("one byte of none", () -> empty.text(1, 1500));
        Due.is("year 1000", empty.text(0, 1000), 0);
        Due.is("year 2000", empty.text(0, 2000), 1);
    }

    private static void latestFault() {
        ArmsBook book = new ArmsBook();
        Due.is("of a new object", book.fault(), NONE);
        Written.text(book, "fee x;", 1500);
        Due.is("a fault", book.fault(), 4);
        Due.is("asked again", book.fault(), 4);
        Written.text(book, "bogus", 1500);
        Due.is("the next one's, at 0", book.fault(), 0);
        Written.text(book, "fee 1;", 1500);
        Due.is("without", book.fault(), NONE);
        Written.text(book, "fee 1" + times("+1", 197) + "+", 1500);
        Due.is("behind the last byte of 400", book.fault(), 400);
        Due.illegalArgument("a call that throws", () -> book.text(1, 1500));
        Due.is("it stays", book.fault(), 400);
        Written.feed(book, "fee x;");
        Due.is("feeding changes nothing", book.fault(), 400);
        book.text(0, 1500);
        Due.is("of no bytes, without", book.fault(), NONE);
    }

    private static void claimAnswers() {
        Family family = sons();
        family.text("refuse year=1530; differ 1;", 1500);
        Due.is("0", family.book.claim(1, 7, 1540), 0);
        Due.is("1", family.book.claim(1, 8, 1540), 1);
        Due.is("2", family.book.claim(1, 7, 1600), 2);
        Due.is("3", family.book.claim(2, 7, 1530), 3);
        Due.is("4", family.book.claim(2, 7, 1540), 4);
        Due.is("1 ahead of 2", family.book.claim(1, 8, 1600), 1);
        Due.is("2 ahead of 4", family.book.claim(2, 7, 1601), 2);
        Due.is("2 ahead of 3", family.book.claim(2, 7, 1511), 2);
        Due.is("asked again", family.book.claim(2, 7, 1540), 4);
    }

    private static void feeInForce() {
        Family family = sons();
        Due.is("without a text", family.book.fee(0, 1540), 0);
        family.text("fee 8;", 1490);
        family.text("fee 9;", 1530);
        Due.is("without arms, a year ahead of the grant", family.book.fee(0, 1499), 0);
        Due.is("the year of the grant", family.book.fee(0, 1500), 8);
        Due.is("a year ahead of the next text", family.book.fee(0, 1529), 8);
        Due.is("by the next text", family.book.fee(0, 1530), 9);
        Due.is("of one not living", family.book.fee(0, 1700), 9);
        Due.is("of one not born", family.book.fee(2, 1500), 8);
        int other = family.male(1500, 1560);
        Due.is("of one without arms", family.book.fee(other, 1540), 0);
        Family late = sons();
        late.text("fee 8;", 1520);
        Due.is("with arms, a year ahead of the text", late.book.fee(0, 1519), 0);
        Due.is("with arms, the text's year", late.book.fee(0, 1520), 8);
        late.text("refuse 1; fee 7;", 1530);
        Due.is("of a claim that is refused", late.book.fee(0, 1530), 7);
    }
}
