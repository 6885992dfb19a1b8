/** Promises 5 (feed), 6 (text), 7 (fault), 13 (claim), 14 (fee). */
public final class TextTest {
    public static void main(String[] args) {
        feed();
        text();
        textLimit();
        outOfPlace();
        tooMuch();
        noName();
        likeWords();
        longText();
        inForce();
        claim();
        fee();
        expressions();
        names();
        Due.finish();
    }

    private static void feed() {
        ArmsBook book = new ArmsBook();
        for (int i = 1; i <= 20; i++) {
            Due.is("feed " + i, book.feed(1, 2, 3, 4, 5), 20 * i);
        }
        Due.is("feed 21", book.feed(1, 2, 3, 4, 5), -1);
        Due.is("still 400", book.count(4), 400);
        ArmsBook order = new ArmsBook();
        order.feed('f' << 24 | 'e' << 16 | 'e' << 8 | ' ', '1' << 24 | '2' << 16 | '3' << 8 | '4',
                ';' << 24 | 'f' << 16 | 'e' << 8 | 'e', '5' << 24 | '6' << 16 | ' ' << 8 | '+',
                ' ' << 24 | '\n' << 16 | '7' << 8 | ';');
        Due.is("the highest byte first", order.text(20, 1500), 0);
        order.person(false, 1500, 1560);
        order.grant(0, 1, 1500);
        Due.is("its fee", order.fee(0, 1500), 1234 + 56 + 7);
    }

    private static void text() {
        ArmsBook book = new ArmsBook();
        Due.is("an empty text", book.text(0, 1000), 0);
        book.feed(0, 0, 0, 0, 0);
        Due.is("no byte of twenty", book.text(0, 2000), 1);
        Due.is("the tape is empty", book.count(4), 0);
        Written.feed(book, "fee 1; fee");
        Due.is("the first bytes alone", book.text(6, 1500), 2);
        Due.is("fault()", book.fault(), -1);
        Due.is("blanks alone", Written.text(book, " \n ", 1500), 3);
        Written.feed(book, "fee fee");
        Due.is("a fault", book.text(7, 1500), -4);
        Due.is("its place", book.fault(), 4);
        Due.is("the tape is empty behind a fault", book.count(4), 0);
        Due.is("no text came", book.count(2), 4);
        Written.feed(book, "fee 1;");
        Due.illegalArgument("21 bytes of 20", () -> book.text(21, 1500));
        Due.illegalArgument("-1 bytes", () -> book.text(-1, 1500));
        Due.illegalArgument("year 999", () -> book.text(6, 999));
        Due.illegalArgument("year 2001", () -> book.text(6, 2001));
        Due.is("the tape stays", book.count(4), 20);
        Due.is("the fault stays", book.fault(), 4);
        Due.is("a text without a fault", book.text(20, 1500), 4);
        Due.is("no fault then", book.fault(), -1);
    }

    private static void textLimit() {
        ArmsBook book = new ArmsBook();
        for (int i = 0; i < 6; i++) {
            Due.is("text " + i, Written.text(book, "fee 1;", 1500), i);
        }
        Due.is("text 6", Written.text(book, "fee 1;", 1500), -9);
        Due.is("its fault()", book.fault(), -1);
        Due.is("the tape is empty", book.count(4), 0);
        Due.is("text 6 with a fault", Written.text(book, "fee", 1500), -9);
        Due.is("its fault()", book.fault(), -1);
        Due.illegalArgument("text 6 of bytes that aren't there", () -> book.text(1, 1500));
        Due.is("still six", book.count(2), 6);
    }

    private static void outOfPlace() {
        Written.faulty("refuse", 1, 6);
        Written.faulty("refuse  ", 1, 8);
        Written.faulty("refuse 1", 1, 8);
        Written.faulty("refuse 1 ", 1, 9);
        Written.faulty("refuse (1", 1, 9);
        Written.faulty("refuse 1 +", 1, 10);
        Written.faulty("refuse 1 and", 1, 12);
        Written.faulty("refuse not", 1, 10);
        Written.faulty("1", 1, 0);
        Written.faulty(" ;", 1, 1);
        Written.faulty("grade", 1, 0);
        Written.faulty("refused 1;", 1, 0);
        Written.faulty("refus e 1;", 1, 0);
        Written.faulty("Refuse 1;", 1, 0);
        Written.faulty("refuse ;", 1, 7);
        Written.faulty("refuse 1;;", 1, 9);
        Written.faulty("refuse 1);", 1, 8);
        Written.faulty("refuse ();", 1, 8);
        Written.faulty("refuse (1;", 1, 9);
        Written.faulty("refuse 1 2;", 1, 9);
        Written.faulty("refuse 1 grade;", 1, 9);
        Written.faulty("refuse 1 bogus;", 1, 9);
        Written.faulty("refuse 1 12345;", 1, 9);
        Written.faulty("refuse 1 not 2;", 1, 9);
        Written.faulty("refuse (1 refuse 1;", 1, 10);
        Written.faulty("refuse 1<2<3;", 1, 10);
        Written.faulty("refuse 1=2<3;", 1, 10);
        Written.faulty("refuse -1;", 1, 7);
        Written.faulty("refuse 1+-1;", 1, 9);
        Written.faulty("refuse 1\t;", 1, 8);
        Written.faulty("refuse 1*2;", 1, 8);
        Written.faulty("refuse \u00e1;", 1, 7);
        Written.faulty("refuse 1;\0", 1, 9);
        Written.faulty("refuse 1A;", 1, 8);
        Written.faultless("refuse(1);");
        Written.faultless("refuse1;");
        Written.faultless("refuse\n1\n;\n");
        Written.faulty("refuse 1 andnot 2;", 1, 9);
        Written.faultless("refuse 1and not grade or 2;");
        Written.faultless("refuse (1<2)<(3=4);");
    }

    private static String times(String words, int n) {
        return words.repeat(n);
    }

    private static void tooMuch() {
        Written.faultless("fee 9999;");
        Written.faultless("fee 0000;");
        Written.faulty("fee 10000;", 2, 4);
        Written.faulty("fee 00000;", 2, 4);
        Written.faulty("fee 1+" + times("1", 300) + ";", 2, 6);
        Written.faulty("fee 10000 10000", 2, 4);
        Written.faultless(times("fee 1;", 12));
        Written.faulty(times("fee 1;", 13), 2, 72);
        Written.faulty(times("fee 1;", 12) + " differ", 2, 73);
        Written.faulty(times("fee 1;", 12) + "grade", 1, 72);
        Written.faulty(times("fee 1;", 12) + "1", 1, 72);
        Written.faultless("fee " + times("(", 5) + "1" + times(")", 5) + ";");
        Written.faulty("fee " + times("(", 6) + "1" + times(")", 6) + ";", 2, 10);
        Written.faulty("fee " + times("(", 7) + "1" + times(")", 7) + ";", 2, 10);
        Written.faulty("fee " + times("(", 6) + " not 1" + times(")", 6) + ";", 2, 11);
        Written.faulty("fee " + times("(", 6) + " grade" + times(")", 6) + ";", 2, 11);
        Written.faulty("fee " + times("(", 6) + "12345" + times(")", 6) + ";", 2, 10);
        Written.faulty("fee " + times("(", 6) + ");", 1, 10);
        Written.faulty("fee " + times("(", 6) + "bogus", 3, 10);
        Written.faulty("fee " + times("(", 6), 1, 10);
        Written.faulty("fee " + times("(", 390), 2, 10);
        String five = times("(", 5) + "1" + times(")", 5);
        Written.faultless("fee " + five + "+" + five + " and not " + five + "<" + five + ";");
    }

    private static void noName() {
        Written.faulty("refuse x;", 3, 7);
        Written.faulty("refuse 1+zaz;", 3, 9);
        Written.faulty("refuse grades;", 3, 7);
        Written.faulty("refuse grad;", 3, 7);
        Written.faulty("refuse (x;", 3, 8);
        Written.faulty("refuse 1+bogus;", 3, 9);
        Written.faulty("refuse 1 and and;", 3, 13);
        Written.faulty("refuse refuse;", 3, 7);
        Written.faulty("refuse not not 1;", 3, 11);
        Written.faulty("refuse 1+not 1;", 3, 9);
        Written.faulty("refuse 1<not 1;", 3, 9);
        Written.faulty("refuse 1 + x 12345", 3, 11);
        Written.faultless("refuse grade+steps+year+born+female+marks+rivals+quarters;");
    }

    /** A word with one letter put otherwise, too few or too many is another word. */
    private static void likeWords() {
        String[] words = {"refuse", "differ", "fee", "grade", "steps", "year", "born", "female", "marks", "rivals",
            "quarters", "and", "or", "not"};
        for (String word : words) {
            for (int i = 0; i < word.length(); i++) {
                unknown(word.substring(0, i) + "z" + word.substring(i + 1));
                unknown(word.substring(0, i) + word.substring(i + 1));
            }
            unknown(word + "s");
        }
    }

    private static void unknown(String word) {
        Written.faulty(word + " 1;", 1, 0);
        Written.faulty("fee 1 " + word + " 1;", 1, 6);
        Written.faulty("fee " + word + ";", 3, 4);
    }

    private static void longText() {
        Written.faultless("fee 1" + times("+1", 197) + ";");
        Written.faultless("fee 1;" + times(" ", 394));
        Written.faulty("fee 1" + times("+1", 197) + "+", 1, 400);
        Written.faultless("fee 1" + times("or 1", 98) + ";");
    }

    /** 0 has the sons 1 and 2, 2 the younger; arms 7 from 1500 on. */
    private static ArmsBook sons() {
        ArmsBook book = new ArmsBook();
        book.person(false, 1480, 1550);
        book.person(false, 1510, 1590);
        book.person(false, 1512, 1600);
        book.parent(1, 0, 0, 8);
        book.parent(2, 0, 0, 4);
        book.grant(0, 7, 1500);
        return book;
    }

    private static void inForce() {
        ArmsBook book = sons();
        Written.text(book, "fee 5;", 1540);
        Written.text(book, "fee 6;", 1520);
        Due.is("ahead of all", book.fee(0, 1519), 0);
        Due.is("from its year on", book.fee(0, 1520), 6);
        Due.is("a year ahead of the next", book.fee(0, 1539), 6);
        Due.is("the latest, though told first", book.fee(0, 1540), 5);
        Written.text(book, "fee 7;", 1540);
        Due.is("of like ones the later told", book.fee(0, 1540), 7);
        Due.is("in the highest year", book.fee(0, Integer.MAX_VALUE), 7);
        Written.text(book, "fee", 1540);
        Due.is("a text with a fault is none", book.fee(0, 1540), 7);
        Written.text(book, "", 1545);
        Due.is("an empty one is one", book.fee(0, 1545), 0);
    }

    private static void claim() {
        ArmsBook book = sons();
        Due.is("without a text", book.claim(2, 7, 1540), 0);
        Due.is("other arms", book.claim(2, 8, 1540), 1);
        Due.is("ahead of the grant", book.claim(0, 7, 1499), 1);
        Due.is("NONE where there are none", book.claim(0, -1, 1499), 1);
        Due.is("not living", book.claim(0, 7, 1551), 2);
        Due.is("other arms and not living", book.claim(0, 8, 1551), 1);
        Due.is("not born", book.claim(2, 7, 1511), 2);
        Written.text(book, "differ 1; refuse grade<5; refuse year=1520;", 1500);
        Due.is("refused by grade", book.claim(2, 7, 1540), 3);
        Due.is("refused by year", book.claim(0, 7, 1520), 3);
        Due.is("not living goes ahead of refused", book.claim(2, 7, 1511), 2);
        Due.is("plain", book.claim(1, 7, 1540), 0);
        Written.text(book, "differ 0; differ 2-4; differ 0; refuse 0;", 1530);
        Due.is("not plain", book.claim(2, 7, 1540), 4);
        Due.is("plain, still", book.claim(1, 7, 1540), 0);
        Due.is("plain when the brother is dead", book.claim(2, 7, 1591), 0);
        Written.text(book, "differ 0;", 1560);
        Due.is("nothing differs", book.claim(2, 7, 1560), 0);
        Written.text(book, "refuse 0; refuse 1-2; refuse 0;", 1570);
        Due.is("a number below 0 refuses", book.claim(1, 7, 1570), 3);
        Written.text(book, "fee 3;", 1580);
        Due.is("a fee refuses nothing", book.claim(2, 7, 1580), 0);
        Due.noSuchElement("claim(3, 7, 1540)", () -> book.claim(3, 7, 1540));
        Due.noSuchElement("claim(-1, 7, 1540)", () -> book.claim(-1, 7, 1540));
    }

    private static void fee() {
        ArmsBook book = sons();
        Due.is("without a text", book.fee(0, 1540), 0);
        Written.text(book, "fee 10; refuse 100; fee steps; differ 1000; fee 1-4;", 1480);
        Due.is("the sum of all", book.fee(2, 1540), 8);
        Due.is("of one who isn't living", book.fee(2, 1700), 8);
        Due.is("without arms", book.fee(0, 1499), 0);
        Due.is("without a text again", book.fee(0, 1479), 0);
        Due.noSuchElement("fee(3, 1540)", () -> book.fee(3, 1540));
        Due.noSuchElement("fee(-1, 1540)", () -> book.fee(-1, 1540));
    }

    private static void expressions() {
        Written.worth("7", 7);
        Written.worth("10-3-4", 3);
        Written.worth("10-(3-4)", 11);
        Written.worth("2-3", -1);
        Written.worth("1<2", 1);
        Written.worth("2<2", 0);
        Written.worth("2=2", 1);
        Written.worth("1=2", 0);
        Written.worth("1+1=2", 1);
        Written.worth("2<1+2", 1);
        Written.worth("0-1<0", 1);
        Written.worth("5 and 3", 1);
        Written.worth("5 and 0", 0);
        Written.worth("0 and 5", 0);
        Written.worth("0-1 and 0-1", 1);
        Written.worth("5 or 0", 1);
        Written.worth("0 or 7", 1);
        Written.worth("0 or 0", 0);
        Written.worth("1 or 1 and 0", 0);
        Written.worth("0 and 0 or 1", 1);
        Written.worth("1 or (1 and 0)", 1);
        Written.worth("not 0", 1);
        Written.worth("not 5", 0);
        Written.worth("not 1<2", 0);
        Written.worth("not 2<1", 1);
        Written.worth("not 1=0", 1);
        Written.worth("not 1+1", 0);
        Written.worth("not 1-1", 1);
        Written.worth("not 1 or 1", 1);
        Written.worth("1 and not 0", 1);
        Written.worth("(not 0)+5", 6);
        Written.worth("(1<2)+(3<4)+(5=5)", 3);
        Written.worth("9999+9999", 19998);
        Written.worth("0012", 12);
        Written.worth(within(5), 0);
        Written.worth(within(4), 1);
    }

    /** Expressions one in another, each with all that can wait for what stands within it. */
    private static String within(int depth) {
        return "1 and 5<6-" + (depth == 0 ? "0" : "(" + within(depth - 1) + ")");
    }

    private static void names() {
        ArmsBook book = sons();
        book.person(true, 1540, 1600);
        book.parent(3, 0, 2, 6);
        book.person(false, 1500, 1560);
        book.grant(4, 7, 1505);
        book.grant(3, 9, 1580);
        String[] names = {"grade", "steps", "year", "born", "female", "marks", "rivals", "quarters"};
        int[] due = {4, 2, 1550, 1540, 1, 1, 1, 1};
        int[] later = {9, 0, 1590, 1540, 1, 0, 0, 2};
        for (int i = 0; i < names.length; i++) {
            ArmsBook other = sons();
            other.person(true, 1540, 1600);
            other.parent(3, 0, 2, 6);
            other.person(false, 1500, 1560);
            other.grant(4, 7, 1505);
            other.grant(3, 9, 1580);
            Written.text(other, "fee " + names[i] + ";", 1500);
            Due.is(names[i], other.fee(3, 1550), due[i]);
            Due.is(names[i] + " later", other.fee(3, 1590), later[i]);
        }
        Written.text(book, "fee marks;", 1500);
        Due.is("female of a male", book.fee(4, 1550), 0);
    }
}
