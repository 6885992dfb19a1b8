import java.util.NoSuchElementException;
import java.util.Random;

/** All promises: long runs of calls, from fixed seeds, each answered as PlainModel answers it. */
public final class ModelTest {
    private static final int RUNS = 400;
    private static final int CALLS = 512;
    private static final String[] WORDS = {
        "refuse", "differ", "fee", "and", "or", "not", "grade", "steps", "year", "born", "female", "marks",
        "rivals", "quarters", "bogus", "(", ")", ";", "+", "-", "<", "=", "0", "1", "7", "1500", "12345", "*",
        " ", "\n", "\t", "A", "\u00ff"
    };

    private final Random random;
    private final int run;
    private final ArmsBook book = new ArmsBook();
    private final PlainModel model = new PlainModel();
    private final int firstYear;

    private ModelTest(int run) {
        this.run = run;
        this.random = new Random(run);
        this.firstYear = 1000 + random.nextInt(800);
    }

    public static void main(String[] args) {
        for (int run = 0; run < RUNS && Due.wrong() < 20; run++) {
            ModelTest test = new ModelTest(run);
            test.settle();
            for (int call = 0; call < CALLS && Due.wrong() < 20; call++) {
                test.anyCall();
            }
        }
        for (int run = 0; run < 20 * RUNS && Due.wrong() < 20; run++) {
            new ModelTest(run).readText();
        }
        Due.finish();
    }

    private static long answer(Due.Call call) {
        try {
            return call.answer();
        } catch (NoSuchElementException e) {
            return Long.MIN_VALUE;
        } catch (IllegalArgumentException e) {
            return Long.MIN_VALUE + 1;
        }
    }

    private void same(String call, Due.Call got, Due.Call due) {
        Due.is("run " + run + ": " + call, answer(got), answer(due));
    }

    private int below(int n) {
        return random.nextInt(n);
    }

    private int anyYear() {
        switch (below(12)) {
            case 0: return below(3000);
            case 1: return random.nextInt();
            default: return firstYear + below(260);
        }
    }

    private int anyPerson() {
        int size = model.count(0);
        return below(25) == 0 ? size - below(2) * (size + 1) : below(Math.max(1, size));
    }

    private void tellPerson() {
        boolean female = below(5) < 2;
        int size = model.count(0);
        int born = firstYear + Math.min(200, size * (2 + run % 4)) + below(20);
        int died = below(5) == 0 ? -1 : born + below(below(4) == 0 ? 103 : 70);
        if (below(20) == 0) {
            died = born - below(3);
        }
        int last = died;
        same("person(" + female + ", " + born + ", " + last + ")",
                () -> book.person(female, born, last), () -> model.person(female, born, last));
    }

    private void tellParent() {
        int child = anyPerson();
        int what = below(30) == 0 ? below(5) - 2 : below(2);
        int parent = below(10) == 0 ? anyPerson() : likelyParent(child, what);
        int grade = below(20) == 0 ? below(12) - 1 : 1 + below(9);
        same("parent(" + child + ", " + what + ", " + parent + ", " + grade + ")",
                () -> book.parent(child, what, parent, grade) ? 1 : 0,
                () -> model.parent(child, what, parent, grade));
    }

    /** One of the right sex and about the right age, if a few draws find one. */
    private int likelyParent(int child, int what) {
        int found = anyPerson();
        for (int i = 0; i < 20 && isPerson(child); i++) {
            int gap = isPerson(found) ? model.about(child, 0) - model.about(found, 0) : 0;
            if (found < child && gap >= 13 && gap <= 52 && model.about(found, 6) == what) {
                return found;
            }
            found = anyPerson();
        }
        return found;
    }

    private boolean isPerson(int p) {
        return p >= 0 && p < model.count(0);
    }

    private void tellGrant() {
        int to = below(2) == 0 ? anyPerson() : below(Math.max(1, model.count(0) / 4));
        int arms = below(15) == 0 ? below(103) - 1 : 1 + below(run % 2 == 0 ? 8 : 60);
        int year = below(2) == 0 ? anyYear() : firstYear + below(60);
        same("grant(" + to + ", " + arms + ", " + year + ")",
                () -> book.grant(to, arms, year), () -> model.grant(to, arms, year));
    }

    /** Most runs begin with kin, grants and texts, so that what follows finds some. */
    private void settle() {
        int size = run % 7 == 0 ? 0 : 5 + below(60);
        for (int i = 0; i < size; i++) {
            tellPerson();
        }
        for (int i = 0; i < size * 6; i++) {
            tellParent();
        }
        int given = size == 0 ? 0 : 2 + below(Math.max(1, size / 2));
        for (int i = 0; i < given; i++) {
            tellGrant();
        }
        for (int i = size == 0 ? 0 : below(5); i > 0; i--) {
            readText();
        }
    }

    private void anyCall() {
        int kind = below(run % 10 == 0 ? 30 : 25);
        switch (kind) {
            case 0: tellPerson(); break;
            case 1: case 2: tellParent(); break;
            case 3: tellGrant(); break;
            case 4:
                if (below(6) == 0) {
                    readText();
                }
                break;
            case 5: badText(); break;
            case 6: case 7: copies(); break;
            case 8: common(); break;
            case 9: counts(); break;
            default: askPerson(below(10)); break;
        }
    }

    private void askPerson(int kind) {
        int p = anyPerson();
        int year = isPerson(p) && below(3) > 0 ? model.about(p, 0) + below(90) - 5 : anyYear();
        int what = below(30) == 0 ? below(14) - 3 : below(8);
        int i = below(8) == 0 ? below(15) - 2 : below(3);
        int arms = below(5) == 0 ? below(20) - 2 : safeArms(p, year);
        String two = "(" + p + ", " + year + ")";
        switch (kind) {
            case 0: case 1:
                same("bears(" + p + ", " + year + ", " + what + ")",
                        () -> book.bears(p, year, what), () -> model.bears(p, year, what));
                break;
            case 2:
                same("mark(" + p + ", " + year + ", " + i + ")",
                        () -> book.mark(p, year, i), () -> model.mark(p, year, i));
                break;
            case 3:
                same("head" + two, () -> book.head(p, year), () -> model.head(p, year));
                break;
            case 4: case 5:
                quarters(p, year, i);
                break;
            case 6:
                same("claim(" + p + ", " + arms + ", " + year + ")",
                        () -> book.claim(p, arms, year), () -> model.claim(p, arms, year));
                break;
            case 7:
                same("fee" + two, () -> book.fee(p, year), () -> model.fee(p, year));
                break;
            case 8:
                same("rivals" + two, () -> book.rivals(p, year), () -> model.rivals(p, year));
                break;
            default:
                same("about(" + p + ", " + what + ")", () -> book.about(p, what), () -> model.about(p, what));
                break;
        }
    }

    private int safeArms(int p, int year) {
        return isPerson(p) ? model.bears(p, year, 0) : 1;
    }

    private void quarters(int p, int year, int i) {
        same("quarter(" + p + ", " + year + ", -1)",
                () -> book.quarter(p, year, -1), () -> model.quarter(p, year, -1));
        same("quarter(" + p + ", " + year + ", " + i + ")",
                () -> book.quarter(p, year, i), () -> model.quarter(p, year, i));
    }

    private void common() {
        int p = anyPerson();
        int q = anyPerson();
        same("common(" + p + ", " + q + ")", () -> book.common(p, q), () -> model.common(p, q));
    }

    private void copies() {
        int c = below(Math.max(1, model.count(3))) - (below(20) == 0 ? 1 : 0) + (below(20) == 0 ? 1 : 0);
        int what = below(20) == 0 ? below(9) - 2 : below(5);
        same("of(" + c + ", " + what + ")", () -> book.of(c, what), () -> model.of(c, what));
        if (below(3) == 0) {
            int year = below(15) == 0 ? anyYear() : firstYear + below(30);
            int row = 0;
            for (int i = 0; i < 8; i++) {
                row = row << 4 | (below(2) == 0 ? 15 : below(16));
            }
            int signs = row;
            same("copy(" + year + ", " + signs + ")", () -> book.copy(year, signs), () -> model.copy(year, signs));
        }
    }

    private void counts() {
        int what = below(10) == 0 ? below(9) - 2 : below(5);
        same("count(" + what + ")", () -> book.count(what), () -> model.count(what));
        same("fault()", book::fault, model::fault);
    }

    private void badText() {
        int n = below(3) == 0 ? model.count(4) + 1 + below(3) : -1 - below(3);
        int year = anyYear();
        same("text(" + n + ", " + year + ")", () -> book.text(n, year), () -> model.text(n, year));
    }

    /** A text by the grammar, mostly, and sometimes with a few bytes put otherwise. */
    private void readText() {
        StringBuilder words = new StringBuilder();
        int rules = below(12) == 0 ? 10 + below(5) : below(5);
        int room = below(10) == 0 ? 500 : 380;
        for (int i = 0; i < rules; i++) {
            int length = words.length();
            words.append(WORDS[below(3)]).append(' ');
            expression(words, 0);
            words.append(';');
            words.setLength(words.length() > room ? length : words.length());
        }
        for (int i = below(3) == 0 ? 1 + below(3) : 0; i > 0; i--) {
            spoil(words);
        }
        feed(words.toString());
        int n = below(6) == 0 ? below(model.count(4) + 1) : Math.min(words.length(), model.count(4));
        int year = below(4) == 0 ? anyYear() : firstYear + below(100);
        same("text(" + n + ", " + year + ") of '" + words + "'",
                () -> book.text(n, year), () -> model.text(n, year));
        same("fault() of '" + words + "'", book::fault, model::fault);
        if (below(2) == 0) {
            askPerson(6 + below(2));
        }
    }

    private void feed(String words) {
        for (int i = 0; i < words.length(); i += 20) {
            int[] five = new int[5];
            for (int k = 0; k < 20; k++) {
                char sign = i + k < words.length() ? words.charAt(i + k) : ' ';
                five[k / 4] = five[k / 4] << 8 | sign & 255;
            }
            same("feed", () -> book.feed(five[0], five[1], five[2], five[3], five[4]), () -> model.feed(five));
        }
    }

    private void expression(StringBuilder words, int depth) {
        test(words, depth);
        for (int i = Math.max(0, below(5) - 2); i > 0; i--) {
            words.append(below(2) == 0 ? " and " : " or ");
            test(words, depth);
        }
    }

    private void test(StringBuilder words, int depth) {
        words.append(below(4) == 0 ? " not " : "");
        sum(words, depth);
        if (below(3) == 0) {
            words.append(below(2) == 0 ? "<" : "=");
            sum(words, depth);
        }
    }

    private void sum(StringBuilder words, int depth) {
        part(words, depth);
        for (int i = below(6) == 0 ? 1 + below(2) : 0; i > 0; i--) {
            words.append(below(2) == 0 ? "+" : "-");
            part(words, depth);
        }
    }

    private void part(StringBuilder words, int depth) {
        if (depth < 8 && below(4) == 0) {
            words.append('(');
            expression(words, depth + 1);
            words.append(')');
        } else if (below(2) == 0) {
            words.append(WORDS[6 + below(8)]);
        } else {
            words.append(below(3) == 0 ? firstYear + below(200) : below(10));
        }
    }

    private void spoil(StringBuilder words) {
        int at = below(words.length() + 1);
        int end = Math.min(words.length(), at + below(3));
        words.replace(at, end, below(3) == 0 ? "" : WORDS[below(WORDS.length)]);
    }
}
