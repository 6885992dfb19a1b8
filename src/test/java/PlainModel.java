import java.util.ArrayList;
import java.util.Comparator;
import java.util.HashMap;
import java.util.List;
import java.util.Map;
import java.util.NoSuchElementException;

/** The document's words put down one by one, without regard to speed or room. */
final class PlainModel {
    private static final class Person {
        int number;
        boolean female;
        int born;
        int died;
        Person father;
        Person mother;
        int fatherGrade;
        int motherGrade;

        int end() {
            return died == -1 ? born + 100 : died;
        }

        boolean living(int year) {
            return born <= year && year <= end();
        }
    }

    private record Grant(Person to, int arms, int year) {
    }

    private record Law(String words, int year) {
    }

    private record Copy(int number, int year, int row) {
    }

    private final List<Person> people = new ArrayList<>();
    private final List<Grant> grants = new ArrayList<>();
    private final List<Law> laws = new ArrayList<>();
    private final List<Copy> copies = new ArrayList<>();
    private final StringBuilder tape = new StringBuilder();
    private int fault = -1;

    private static boolean year(int year) {
        return 1000 <= year && year <= 2000;
    }

    private Person get(int person) {
        if (person < 0 || person >= people.size()) {
            throw new NoSuchElementException();
        }
        return people.get(person);
    }

    int person(boolean female, int born, int died) {
        if (people.size() == 60 || !year(born)) {
            return -1;
        }
        if (died != -1 && (!year(died) || died < born || died > born + 100)) {
            return -1;
        }
        Person p = new Person();
        p.number = people.size();
        p.female = female;
        p.born = born;
        p.died = died;
        people.add(p);
        return p.number;
    }

    int parent(int person, int what, int parent, int grade) {
        Person child = get(person);
        Person p = get(parent);
        if (what != 0 && what != 1) {
            throw new NoSuchElementException();
        }
        boolean told = what == 0 ? child.father != null : child.mother != null;
        int age = child.born - p.born;
        boolean can = what == 0
                ? !p.female && age >= 14 && p.end() >= child.born - 1
                : p.female && age >= 14 && age <= 50 && p.living(child.born);
        if (told || !can || grade < 1 || grade > 9 || parent >= person) {
            return 0;
        }
        if (what == 0) {
            child.father = p;
            child.fatherGrade = grade;
        } else {
            child.mother = p;
            child.motherGrade = grade;
        }
        return 1;
    }

    int grant(int person, int arms, int year) {
        Person p = get(person);
        if (grants.size() == 40 || arms < 1 || arms > 99 || !year(year)) {
            return -1;
        }
        grants.add(new Grant(p, arms, year));
        return grants.size() - 1;
    }

    int feed(int... five) {
        if (tape.length() + 20 > 400) {
            return -1;
        }
        for (int number : five) {
            for (int i = 3; i >= 0; i--) {
                tape.append((char) (number >> 8 * i & 255));
            }
        }
        return tape.length();
    }

    int text(int n, int year) {
        if (n < 0 || n > tape.length() || !year(year)) {
            throw new IllegalArgumentException();
        }
        String words = tape.substring(0, n);
        tape.setLength(0);
        fault = -1;
        if (laws.size() == 6) {
            return -9;
        }
        int[] found = PlainText.faultOf(words);
        if (found[0] != 0) {
            fault = found[1];
            return -1 - found[0];
        }
        laws.add(new Law(words, year));
        return laws.size() - 1;
    }

    int fault() {
        return fault;
    }

    private List<Person> children(Person p) {
        List<Person> found = new ArrayList<>();
        for (Person q : people) {
            if (q.father == p || q.mother == p) {
                found.add(q);
            }
        }
        found.sort(Comparator.comparingInt((Person q) -> q.born).thenComparingInt(q -> q.number));
        return found;
    }

    int about(int person, int what) {
        Person p = get(person);
        switch (what) {
            case 0: return p.born;
            case 1: return p.died;
            case 2: return p.father == null ? -1 : p.father.number;
            case 3: return p.mother == null ? -1 : p.mother.number;
            case 4: return p.fatherGrade;
            case 5: return p.motherGrade;
            case 6: return p.female ? 1 : 0;
            case 7: return children(p).size();
            default: throw new NoSuchElementException();
        }
    }

    private Grant own(Person p, int year) {
        Grant best = null;
        for (Grant g : grants) {
            if (g.to == p && g.year <= year && (best == null || g.year >= best.year)) {
                best = g;
            }
        }
        return best;
    }

    /** From oneself up to the root; null without arms. */
    private List<Person> way(Person p, int year) {
        List<Person> way = new ArrayList<>();
        for (Person at = p; at != null; at = at.father) {
            way.add(at);
            if (own(at, year) != null) {
                return way;
            }
        }
        return null;
    }

    private int arms(Person p, int year) {
        List<Person> way = way(p, year);
        return way == null ? -1 : own(way.get(way.size() - 1), year).arms;
    }

    private int grade(Person p, int year) {
        List<Person> way = way(p, year);
        int least = 9;
        for (int i = 0; i + 1 < way.size(); i++) {
            least = Math.min(least, way.get(i).fatherGrade);
        }
        return least;
    }

    private boolean lineLives(Person p, int year) {
        if (p.female) {
            return false;
        }
        if (p.living(year)) {
            return true;
        }
        for (Person child : children(p)) {
            if (!child.female && child.born <= year && lineLives(child, year)) {
                return true;
            }
        }
        return false;
    }

    private List<Integer> marks(Person p, int year) {
        List<Integer> marks = new ArrayList<>();
        List<Person> way = way(p, year);
        for (int i = way == null ? -1 : way.size() - 2; i >= 0; i--) {
            Person at = way.get(i);
            int place = 0;
            for (Person child : children(at.father)) {
                if (child == at) {
                    place++;
                    break;
                }
                if (!child.female && child.born <= year && lineLives(child, year)) {
                    place++;
                }
            }
            marks.add(place);
        }
        return marks;
    }

    private boolean plain(Person p, int year) {
        for (int mark : marks(p, year)) {
            if (mark != 1) {
                return false;
            }
        }
        return true;
    }

    private boolean heiress(Person p, int year) {
        if (!p.female || p.father == null || p.father.end() > year) {
            return false;
        }
        for (Person child : children(p.father)) {
            if (!child.female && child.born <= year && lineLives(child, year)) {
                return false;
            }
        }
        return true;
    }

    int bears(int person, int year, int what) {
        Person p = get(person);
        List<Person> way = way(p, year);
        switch (what) {
            case 0: return arms(p, year);
            case 1: return way == null ? -1 : way.get(way.size() - 1).number;
            case 2: return way == null ? -1 : way.size() - 1;
            case 3: return way == null ? -1 : grade(p, year);
            case 4: return p.living(year) ? 1 : 0;
            case 5: return lineLives(p, year) ? 1 : 0;
            case 6: return heiress(p, year) ? 1 : 0;
            case 7: return way != null && plain(p, year) ? 1 : 0;
            default: throw new NoSuchElementException();
        }
    }

    int mark(int person, int year, int i) {
        List<Integer> marks = marks(get(person), year);
        if (i < 0 || i >= marks.size()) {
            throw new NoSuchElementException();
        }
        return marks.get(i);
    }

    int head(int person, int year) {
        Person p = get(person);
        if (p.living(year)) {
            return person;
        }
        for (Person child : children(p)) {
            if (!child.female && lineLives(child, year)) {
                return head(child.number, year);
            }
        }
        return -1;
    }

    private List<Integer> quarters(Person p, int year, Map<Person, List<Integer>> known) {
        if (known.containsKey(p)) {
            return known.get(p);
        }
        List<Person> down = new ArrayList<>();
        for (Person at = p; at != null; at = at.father) {
            down.add(0, at);
        }
        List<Integer> row = new ArrayList<>();
        for (Person at : down) {
            if (own(at, year) != null) {
                put(row, arms(at, year));
            }
            Person m = at.mother;
            if (m != null && (heiress(m, year) || m.end() <= year && heiress(m, m.end()))) {
                for (int arms : quarters(m, year, known)) {
                    put(row, arms);
                }
            }
        }
        List<Integer> first = new ArrayList<>(row.subList(0, Math.min(12, row.size())));
        known.put(p, first);
        return first;
    }

    private static void put(List<Integer> row, int arms) {
        if (!row.contains(arms)) {
            row.add(arms);
        }
    }

    int quarter(int person, int year, int i) {
        List<Integer> row = quarters(get(person), year, new HashMap<>());
        if (i == -1) {
            return row.size();
        }
        if (i < 0 || i >= row.size()) {
            throw new NoSuchElementException();
        }
        return row.get(i);
    }

    /** The sums of refuse (1 if one isn't 0), differ (likewise) and fee. */
    private int[] judge(Person p, int year) {
        Law best = null;
        for (Law law : laws) {
            if (law.year <= year && (best == null || law.year >= best.year)) {
                best = law;
            }
        }
        if (best == null) {
            return new int[3];
        }
        int above = 0;
        for (int mark : marks(p, year)) {
            above += mark > 1 ? 1 : 0;
        }
        Map<String, Integer> names = new HashMap<>();
        names.put("grade", grade(p, year));
        names.put("steps", way(p, year).size() - 1);
        names.put("year", year);
        names.put("born", p.born);
        names.put("female", p.female ? 1 : 0);
        names.put("marks", above);
        names.put("rivals", rivals(p.number, year));
        names.put("quarters", quarter(p.number, year, -1));
        return PlainText.judge(best.words, names);
    }

    int claim(int person, int arms, int year) {
        Person p = get(person);
        if (way(p, year) == null || arms(p, year) != arms) {
            return 1;
        }
        if (!p.living(year)) {
            return 2;
        }
        int[] found = judge(p, year);
        return found[0] != 0 ? 3 : found[1] != 0 && !plain(p, year) ? 4 : 0;
    }

    int fee(int person, int year) {
        Person p = get(person);
        return way(p, year) == null ? 0 : judge(p, year)[2];
    }

    int rivals(int person, int year) {
        List<Person> way = way(get(person), year);
        if (way == null) {
            return 0;
        }
        Person root = way.get(way.size() - 1);
        int found = 0;
        for (Person q : people) {
            Grant g = own(q, year);
            found += q != root && g != null && g.arms == own(root, year).arms ? 1 : 0;
        }
        return found;
    }

    private boolean comesDown(Person p, Person from) {
        return p != null && (p == from || comesDown(p.father, from, p) || comesDown(p.mother, from, p));
    }

    /** No way goes on through those of lesser numbers than the one that is looked for. */
    private boolean comesDown(Person p, Person from, Person child) {
        return p != null && p.number >= from.number && child != p && comesDown(p, from);
    }

    int common(int person, int other) {
        Person p = get(person);
        Person q = get(other);
        for (int n = people.size() - 1; n >= 0; n--) {
            if (comesDown(p, people.get(n)) && comesDown(q, people.get(n))) {
                return n;
            }
        }
        return -1;
    }

    int copy(int year, int row) {
        if (copies.size() == 40 || !year(year)) {
            return -1;
        }
        copies.add(new Copy(copies.size(), year, row));
        return copies.size() - 1;
    }

    private static int places(Copy a, Copy b) {
        String one = String.format("%08x", a.row);
        String two = String.format("%08x", b.row);
        int found = 0;
        for (int i = 0; i < 8; i++) {
            found += one.charAt(i) != two.charAt(i) ? 1 : 0;
        }
        return found;
    }

    private Copy source(Copy c) {
        List<Copy> earlier = new ArrayList<>();
        for (Copy o : copies) {
            if (o.year < c.year) {
                earlier.add(o);
            }
        }
        earlier.sort(Comparator.comparingInt((Copy o) -> places(c, o))
                .thenComparingInt(o -> -o.year).thenComparingInt(o -> o.number));
        return earlier.isEmpty() || places(c, earlier.get(0)) > 4 ? null : earlier.get(0);
    }

    private int drift(Copy c) {
        Copy s = source(c);
        return s == null ? 0 : places(c, s) + drift(s);
    }

    private Copy original(Copy c) {
        Copy s = source(c);
        return s == null ? c : original(s);
    }

    int of(int copy, int what) {
        if (copy < 0 || copy >= copies.size()) {
            throw new NoSuchElementException();
        }
        Copy c = copies.get(copy);
        Copy s = source(c);
        switch (what) {
            case 0: return s == null ? -1 : s.number;
            case 1: return s == null ? 0 : places(c, s);
            case 2: return drift(c);
            case 3: return original(c).number;
            case 4:
                int taken = 0;
                for (Copy o : copies) {
                    taken += source(o) == c ? 1 : 0;
                }
                return taken;
            default: throw new NoSuchElementException();
        }
    }

    int count(int what) {
        switch (what) {
            case 0: return people.size();
            case 1: return grants.size();
            case 2: return laws.size();
            case 3: return copies.size();
            case 4: return tape.length();
            default: throw new NoSuchElementException();
        }
    }
}
