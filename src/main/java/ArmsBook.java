import java.util.Arrays;
import java.util.NoSuchElementException;

public final class ArmsBook {
    public static final int NONE = -1;

    private static final int FIRST_YEAR = 1000;
    private static final int LAST_YEAR = 2000;
    private static final int TOO_MANY_TEXTS = -9;

    private final People people = new People();
    private final Grants grants = new Grants();
    private final Proof proof = new Proof();
    private final Quarters quarters = new Quarters();
    private final Tape tape = new Tape();
    private final Parser parser = new Parser();
    private final Office office = new Office();
    private final Copies copies = new Copies();
    private int faultPlace = NONE;

    public ArmsBook() {
    }

    public int person(boolean female, int born, int died) {
        return people.add(female, born, died);
    }

    public boolean parent(int person, int what, int parent, int grade) throws NoSuchElementException {
        requirePerson(person);
        requirePerson(parent);
        switch (what) {
            case 0:
                return people.tellFather(person, parent, grade);
            case 1:
                return people.tellMother(person, parent, grade);
            default:
                throw new NoSuchElementException("neither father nor mother");
        }
    }

    public int grant(int person, int arms, int year) throws NoSuchElementException {
        requirePerson(person);
        return grants.add(person, arms, year);
    }

    public int feed(int a, int b, int c, int d, int e) {
        if (!tape.hasRoom()) {
            return NONE;
        }
        tape.put(a);
        tape.put(b);
        tape.put(c);
        tape.put(d);
        tape.put(e);
        return tape.length;
    }

    public int text(int n, int year) throws IllegalArgumentException {
        if (n < 0 || n > tape.length || !isYear(year)) {
            throw new IllegalArgumentException("no such bytes or year");
        }
        tape.length = 0;
        faultPlace = NONE;
        if (office.isFull()) {
            return TOO_MANY_TEXTS;
        }
        parser.parse(tape.bytes, n);
        if (parser.fault != Parser.NO_FAULT) {
            faultPlace = parser.place;
            return -1 - parser.fault;
        }
        return office.add(parser.code(), year);
    }

    public int fault() {
        return faultPlace;
    }

    public int about(int person, int what) throws NoSuchElementException {
        requirePerson(person);
        switch (what) {
            case 0:
                return people.bornOf(person);
            case 1:
                return people.toldDeathOf(person);
            case 2:
                return people.fatherOf(person);
            case 3:
                return people.motherOf(person);
            case 4:
                return people.fatherGradeOf(person);
            case 5:
                return people.motherGradeOf(person);
            case 6:
                return asInt(people.isFemale(person));
            case 7:
                return people.childrenOf(person);
            default:
                throw new NoSuchElementException("nothing of that number is told of people");
        }
    }

    public int bears(int person, int year, int what) throws NoSuchElementException {
        requirePerson(person);
        proof.find(people, grants, person, year);
        switch (what) {
            case 0:
                return proof.arms;
            case 1:
                return proof.root;
            case 2:
                return proof.steps;
            case 3:
                return proof.grade;
            case 4:
                return asInt(people.isLiving(person, year));
            case 5:
                return asInt(People.isIn(people.livingLines(year), person));
            case 6:
                return asInt(people.isHeiress(person, year, people.livingLines(year)));
            case 7:
                return asInt(proof.isPlain());
            default:
                throw new NoSuchElementException("nothing of that number is told of bearers");
        }
    }

    public int mark(int person, int year, int i) throws NoSuchElementException {
        requirePerson(person);
        proof.find(people, grants, person, year);
        if (i < 0 || i >= proof.steps) {
            throw new NoSuchElementException("no such mark");
        }
        return proof.markAt(i);
    }

    public int head(int person, int year) throws NoSuchElementException {
        requirePerson(person);
        return people.headOf(person, year);
    }

    public int quarter(int person, int year, int i) throws NoSuchElementException {
        requirePerson(person);
        quarters.fill(people, grants, person, year);
        int size = quarters.sizeOf(person);
        if (i == NONE) {
            return size;
        }
        if (i < 0 || i >= size) {
            throw new NoSuchElementException("no such quarter");
        }
        return quarters.armsAt(person, i);
    }

    public int claim(int person, int arms, int year) throws NoSuchElementException {
        requirePerson(person);
        proof.find(people, grants, person, year);
        if (proof.arms == NONE || proof.arms != arms) {
            return 1;
        }
        if (!people.isLiving(person, year)) {
            return 2;
        }
        judge(person, year);
        if (office.refuses) {
            return 3;
        }
        return office.differs && !proof.isPlain() ? 4 : 0;
    }

    public int fee(int person, int year) throws NoSuchElementException {
        requirePerson(person);
        proof.find(people, grants, person, year);
        if (proof.arms == NONE) {
            return 0;
        }
        judge(person, year);
        return office.fees;
    }

    public int rivals(int person, int year) throws NoSuchElementException {
        requirePerson(person);
        proof.find(people, grants, person, year);
        return countRivals(year);
    }

    public int common(int person, int other) throws NoSuchElementException {
        requirePerson(person);
        requirePerson(other);
        long both = people.forebears(person) & people.forebears(other);
        for (int q = people.size - 1; q >= 0; q--) {
            if (People.isIn(both, q)) {
                return q;
            }
        }
        return NONE;
    }

    public int copy(int year, int row) {
        return copies.add(year, row);
    }

    public int of(int copy, int what) throws NoSuchElementException {
        if (!copies.has(copy)) {
            throw new NoSuchElementException("no such copy");
        }
        switch (what) {
            case 0:
                return copies.sourceOf(copy);
            case 1:
                return copies.changesOf(copy);
            case 2:
                return copies.driftOf(copy);
            case 3:
                return copies.originalOf(copy);
            case 4:
                return copies.takenFrom(copy);
            default:
                throw new NoSuchElementException("nothing of that number is told of copies");
        }
    }

    public int count(int what) throws NoSuchElementException {
        switch (what) {
            case 0:
                return people.size;
            case 1:
                return grants.size;
            case 2:
                return office.size;
            case 3:
                return copies.size;
            case 4:
                return tape.length;
            default:
                throw new NoSuchElementException("nothing of that number is counted");
        }
    }

    private void requirePerson(int person) {
        if (!people.has(person)) {
            throw new NoSuchElementException("no such person");
        }
    }

    /** Has the office judge the one whose proof was found last, in the same year. */
    private void judge(int person, int year) {
        quarters.fill(people, grants, person, year);
        office.setName(Scanner.GRADE, proof.grade);
        office.setName(Scanner.STEPS, proof.steps);
        office.setName(Scanner.YEAR, year);
        office.setName(Scanner.BORN, people.bornOf(person));
        office.setName(Scanner.FEMALE, asInt(people.isFemale(person)));
        office.setName(Scanner.MARKS, proof.marksAboveOne);
        office.setName(Scanner.RIVALS, countRivals(year));
        office.setName(Scanner.QUARTERS, quarters.sizeOf(person));
        office.judge(year);
    }

    private int countRivals(int year) {
        if (proof.arms == NONE) {
            return 0;
        }
        int rivals = 0;
        for (int q = 0; q < people.size; q++) {
            if (q != proof.root && grants.ownArms(q, year) == proof.arms) {
                rivals++;
            }
        }
        return rivals;
    }

    private static boolean isYear(int year) {
        return year >= FIRST_YEAR && year <= LAST_YEAR;
    }

    private static int asInt(boolean truth) {
        return truth ? 1 : 0;
    }

    /**
     * The people and their parents. A parent's number is always the lesser one, so a walk down the
     * numbers meets children ahead of parents; and 60 people fit the bits of one long as a set.
     */
    private static final class People {
        private static final int MOST = 60;
        private static final int LONGEST_LIFE = 100;
        private static final int BEST_GRADE = 9;
        private static final int YOUNGEST_PARENT = 14;
        private static final int OLDEST_MOTHER = 50;

        private final boolean[] female = new boolean[MOST];
        private final int[] born = new int[MOST];
        private final int[] toldDeath = new int[MOST];
        private final int[] lastYear = new int[MOST];
        private final int[] father = new int[MOST];
        private final int[] mother = new int[MOST];
        private final int[] fatherGrade = new int[MOST];
        private final int[] motherGrade = new int[MOST];
        private int size = 0;

        static boolean isIn(long set, int person) {
            return ((set >>> person) & 1L) != 0L;
        }

        boolean has(int person) {
            return person >= 0 && person < size;
        }

        int add(boolean isFemale, int birth, int death) {
            if (size >= MOST || !isYear(birth) || !canDie(birth, death)) {
                return NONE;
            }
            int number = size;
            female[number] = isFemale;
            born[number] = birth;
            toldDeath[number] = death;
            lastYear[number] = death == NONE ? birth + LONGEST_LIFE : death;
            father[number] = NONE;
            mother[number] = NONE;
            size = number + 1;
            return number;
        }

        private static boolean canDie(int birth, int death) {
            return death == NONE
                    || isYear(death) && death >= birth && death - birth <= LONGEST_LIFE;
        }

        boolean tellFather(int child, int parent, int grade) {
            if (!isGrade(grade) || !canBeFather(child, parent) || father[child] != NONE) {
                return false;
            }
            father[child] = parent;
            fatherGrade[child] = grade;
            return true;
        }

        boolean tellMother(int child, int parent, int grade) {
            if (!isGrade(grade) || !canBeMother(child, parent) || mother[child] != NONE) {
                return false;
            }
            mother[child] = parent;
            motherGrade[child] = grade;
            return true;
        }

        private static boolean isGrade(int grade) {
            return grade >= 1 && grade <= BEST_GRADE;
        }

        private boolean canBeFather(int child, int parent) {
            return has(child) && has(parent) && parent < child
                    && !female[parent]
                    && born[child] - born[parent] >= YOUNGEST_PARENT
                    && lastYear[parent] >= born[child] - 1;
        }

        private boolean canBeMother(int child, int parent) {
            return has(child) && has(parent) && parent < child
                    && female[parent]
                    && born[child] - born[parent] >= YOUNGEST_PARENT
                    && born[child] - born[parent] <= OLDEST_MOTHER
                    && lastYear[parent] >= born[child];
        }

        boolean isFemale(int person) {
            return has(person) && female[person];
        }

        int bornOf(int person) {
            return has(person) ? born[person] : NONE;
        }

        int toldDeathOf(int person) {
            return has(person) ? toldDeath[person] : NONE;
        }

        int fatherOf(int person) {
            return has(person) ? father[person] : NONE;
        }

        int motherOf(int person) {
            return has(person) ? mother[person] : NONE;
        }

        int fatherGradeOf(int person) {
            return has(person) ? fatherGrade[person] : 0;
        }

        int motherGradeOf(int person) {
            return has(person) ? motherGrade[person] : 0;
        }

        boolean isLiving(int person, int year) {
            return has(person) && born[person] <= year && lastYear[person] >= year;
        }

        int childrenOf(int person) {
            int children = 0;
            for (int q = 0; q < size; q++) {
                if (father[q] == person || mother[q] == person) {
                    children++;
                }
            }
            return children;
        }

        /** The set of those whose line lives. Nobody in it is born after the year. */
        long livingLines(int year) {
            long lines = 0L;
            for (int q = size - 1; q >= 0; q--) {
                if (!female[q] && isLiving(q, year)) {
                    lines |= 1L << q;
                }
                // All children of q came ahead of it, so what stands of its line by now is final.
                if (isIn(lines, q) && father[q] != NONE) {
                    lines |= 1L << father[q];
                }
            }
            return lines;
        }

        private boolean isElder(int person, int other) {
            int gap = bornOf(person) - bornOf(other);
            return gap < 0 || gap == 0 && person < other;
        }

        /** Where one stands among its father's sons of living lines, whether or not it is one of them. */
        int placeOf(int person, long lines) {
            int parent = fatherOf(person);
            int place = 1;
            for (int q = 0; q < size; q++) {
                if (father[q] == parent && isIn(lines, q) && isElder(q, person)) {
                    place++;
                }
            }
            return place;
        }

        int headOf(int person, int year) {
            long lines = livingLines(year);
            int at = person;
            for (int i = 0; i < MOST && at != NONE; i++) {
                if (isLiving(at, year)) {
                    return at;
                }
                at = heirOf(at, lines);
            }
            return NONE;
        }

        /** The first son of a father or mother whose line lives. */
        private int heirOf(int parent, long lines) {
            int heir = NONE;
            for (int q = 0; q < size; q++) {
                boolean isSon = (father[q] == parent || mother[q] == parent) && isIn(lines, q);
                if (isSon && (heir == NONE || isElder(q, heir))) {
                    heir = q;
                }
            }
            return heir;
        }

        /** The lines are those that live in the same year. */
        boolean isHeiress(int person, int year, long lines) {
            int parent = fatherOf(person);
            if (!isFemale(person) || !has(parent) || lastYear[parent] > year) {
                return false;
            }
            for (int q = 0; q < size; q++) {
                if (father[q] == parent && isIn(lines, q)) {
                    return false;
                }
            }
            return true;
        }

        /** Whether a mother's quarters go to her children in a year; the lines are those of that year. */
        boolean bringsQuarters(int person, int year, long lines) {
            if (isHeiress(person, year, lines)) {
                return true;
            }
            if (!has(person) || lastYear[person] > year) {
                return false;
            }
            int death = lastYear[person];
            return isHeiress(person, death, livingLines(death));
        }

        /** The set of all from whom one comes down, and oneself. */
        long forebears(int person) {
            long found = has(person) ? 1L << person : 0L;
            for (int q = size - 1; q >= 0; q--) {
                if (isIn(found, q) && father[q] != NONE) {
                    found |= 1L << father[q];
                }
                if (isIn(found, q) && mother[q] != NONE) {
                    found |= 1L << mother[q];
                }
            }
            return found;
        }
    }

    private static final class Grants {
        private static final int MOST = 40;
        private static final int LAST_ARMS = 99;

        private final int[] holder = new int[MOST];
        private final int[] arms = new int[MOST];
        private final int[] from = new int[MOST];
        private int size = 0;

        int add(int person, int coat, int year) {
            if (size >= MOST || coat < 1 || coat > LAST_ARMS || !isYear(year)) {
                return NONE;
            }
            int number = size;
            holder[number] = person;
            arms[number] = coat;
            from[number] = year;
            size = number + 1;
            return number;
        }

        /** The arms that one has by a grant of its own. */
        int ownArms(int person, int year) {
            int found = NONE;
            int latest = FIRST_YEAR;
            for (int g = 0; g < size; g++) {
                if (holder[g] == person && from[g] <= year && from[g] >= latest) {
                    found = arms[g];
                    latest = from[g];
                }
            }
            return found;
        }
    }

    /** How one comes to its arms in a year; made once and found anew for each call. */
    private static final class Proof {
        private final int[] marks = new int[People.MOST];
        private int arms = NONE;
        private int root = NONE;
        private int steps = NONE;
        private int grade = NONE;
        private int marksAboveOne = 0;

        void find(People people, Grants grants, int person, int year) {
            arms = NONE;
            root = NONE;
            steps = NONE;
            grade = NONE;
            marksAboveOne = 0;
            climb(people, grants, person, year);
            if (root != NONE) {
                setMarks(people, person, people.livingLines(year));
            }
        }

        private void climb(People people, Grants grants, int person, int year) {
            int least = People.BEST_GRADE;
            int at = person;
            for (int up = 0; up < People.MOST && at != NONE; up++) {
                int own = grants.ownArms(at, year);
                if (own != NONE) {
                    arms = own;
                    root = at;
                    steps = up;
                    grade = least;
                    return;
                }
                least = Math.min(least, people.fatherGradeOf(at));
                at = people.fatherOf(at);
            }
        }

        private void setMarks(People people, int person, long lines) {
            int at = person;
            for (int i = Math.min(steps, People.MOST) - 1; i >= 0; i--) {
                marks[i] = people.placeOf(at, lines);
                if (marks[i] > 1) {
                    marksAboveOne++;
                }
                at = people.fatherOf(at);
            }
        }

        int markAt(int i) {
            return i >= 0 && i < People.MOST ? marks[i] : NONE;
        }

        boolean isPlain() {
            return arms != NONE && marksAboveOne == 0;
        }
    }

    /**
     * The rows of quarters in one year, of one and all its forebears. They are filled from the least
     * number up, each from its parents' rows: by recursion kin who marry kin would be met again and
     * again, twice as often with each generation.
     */
    private static final class Quarters {
        private static final int MOST = 12;

        private final int[] rows = new int[People.MOST * MOST];
        private final int[] sizes = new int[People.MOST];

        void fill(People people, Grants grants, int person, int year) {
            long lines = people.livingLines(year);
            long needed = people.forebears(person);
            for (int q = 0; q < People.MOST; q++) {
                if (People.isIn(needed, q)) {
                    sizes[q] = 0;
                    addRow(q, people.fatherOf(q));
                    addArms(q, grants.ownArms(q, year));
                    int mother = people.motherOf(q);
                    if (mother != NONE && people.bringsQuarters(mother, year, lines)) {
                        addRow(q, mother);
                    }
                }
            }
        }

        private void addRow(int person, int parent) {
            int size = sizeOf(parent);
            for (int i = 0; i < size; i++) {
                addArms(person, armsAt(parent, i));
            }
        }

        private void addArms(int person, int arms) {
            int size = sizeOf(person);
            if (arms == NONE || !isPlace(person, size)) {
                return;
            }
            for (int i = 0; i < size; i++) {
                if (armsAt(person, i) == arms) {
                    return;
                }
            }
            rows[person * MOST + size] = arms;
            sizes[person] = size + 1;
        }

        private static boolean isPlace(int person, int i) {
            return person >= 0 && person < People.MOST && i >= 0 && i < MOST;
        }

        int sizeOf(int person) {
            return person >= 0 && person < People.MOST ? sizes[person] : 0;
        }

        int armsAt(int person, int i) {
            return isPlace(person, i) ? rows[person * MOST + i] : NONE;
        }
    }

    private static final class Tape {
        private static final int MOST = 400;
        private static final int FED_AT_ONCE = 20;

        private final byte[] bytes = new byte[MOST];
        private int length = 0;

        boolean hasRoom() {
            return length + FED_AT_ONCE <= MOST;
        }

        void put(int number) {
            for (int shift = 24; shift >= 0 && length < MOST; shift -= 8) {
                bytes[length] = (byte) (number >>> shift);
                length++;
            }
        }
    }

    /**
     * The tokens of a text, each one int: a sign is its own byte, a number its value behind
     * FIRST_NUMBER. Behind the last one stands END.
     */
    private static final class Scanner {
        private static final int END = 0;
        private static final int NO_TOKEN = 1;
        private static final int LONG_NUMBER = 2;
        private static final int OTHER_WORD = 3;
        private static final int REFUSE = 4;
        private static final int DIFFER = 5;
        private static final int FEE = 6;
        private static final int AND = 7;
        private static final int OR = 8;
        private static final int NOT = 9;
        private static final int GRADE = 100;
        private static final int STEPS = 101;
        private static final int YEAR = 102;
        private static final int BORN = 103;
        private static final int FEMALE = 104;
        private static final int MARKS = 105;
        private static final int RIVALS = 106;
        private static final int QUARTERS = 107;
        private static final int FIRST_NUMBER = 1000;
        private static final int MOST_DIGITS = 4;
        private static final int MOST = Tape.MOST + 1;

        private final int[] tokens = new int[MOST];
        private final int[] starts = new int[MOST];
        private int size = 0;

        static boolean isName(int token) {
            return token >= GRADE && token <= QUARTERS;
        }

        static boolean isNumber(int token) {
            return token >= FIRST_NUMBER;
        }

        void scan(byte[] bytes, int length) {
            size = 0;
            int end = Math.min(length, bytes.length);
            int at = 0;
            for (int i = 0; i < Tape.MOST && at < end; i++) {
                at = scanOne(bytes, at, end);
            }
            put(END, end);
        }

        private void put(int token, int start) {
            if (size < MOST) {
                tokens[size] = token;
                starts[size] = start;
                size++;
            }
        }

        /** Takes the blank or the token that begins here, and answers where the next one begins. */
        private int scanOne(byte[] bytes, int from, int end) {
            int first = bytes[from];
            if (first == ' ' || first == '\n') {
                return from + 1;
            }
            if (isLetter(first)) {
                int behind = behindLetters(bytes, from, end);
                put(wordToken(bytes, from, behind), from);
                return behind;
            }
            if (isDigit(first)) {
                int behind = behindDigits(bytes, from, end);
                put(numberToken(bytes, from, behind), from);
                return behind;
            }
            put(isSign(first) ? first : NO_TOKEN, from);
            return from + 1;
        }

        private static boolean isLetter(int sign) {
            return sign >= 'a' && sign <= 'z';
        }

        private static boolean isDigit(int sign) {
            return sign >= '0' && sign <= '9';
        }

        private static boolean isSign(int sign) {
            return sign == '(' || sign == ')' || sign == ';' || sign == '+'
                    || sign == '-' || sign == '<' || sign == '=';
        }

        private static int behindLetters(byte[] bytes, int from, int end) {
            int i = from;
            while (i < end && isLetter(bytes[i])) {
                i++;
            }
            return i;
        }

        private static int behindDigits(byte[] bytes, int from, int end) {
            int i = from;
            while (i < end && isDigit(bytes[i])) {
                i++;
            }
            return i;
        }

        private static int numberToken(byte[] bytes, int from, int behind) {
            if (behind - from > MOST_DIGITS) {
                return LONG_NUMBER;
            }
            int value = 0;
            for (int i = from; i < behind; i++) {
                value = value * 10 + (bytes[i] - '0');
            }
            return FIRST_NUMBER + value;
        }

        private static int wordToken(byte[] bytes, int from, int behind) {
            if (spells(bytes, from, behind, "refuse")) {
                return REFUSE;
            }
            if (spells(bytes, from, behind, "differ")) {
                return DIFFER;
            }
            if (spells(bytes, from, behind, "fee")) {
                return FEE;
            }
            if (spells(bytes, from, behind, "and")) {
                return AND;
            }
            if (spells(bytes, from, behind, "or")) {
                return OR;
            }
            return spells(bytes, from, behind, "not") ? NOT : nameToken(bytes, from, behind);
        }

        private static int nameToken(byte[] bytes, int from, int behind) {
            if (spells(bytes, from, behind, "grade")) {
                return GRADE;
            }
            if (spells(bytes, from, behind, "steps")) {
                return STEPS;
            }
            if (spells(bytes, from, behind, "year")) {
                return YEAR;
            }
            if (spells(bytes, from, behind, "born")) {
                return BORN;
            }
            if (spells(bytes, from, behind, "female")) {
                return FEMALE;
            }
            if (spells(bytes, from, behind, "marks")) {
                return MARKS;
            }
            if (spells(bytes, from, behind, "rivals")) {
                return RIVALS;
            }
            return spells(bytes, from, behind, "quarters") ? QUARTERS : OTHER_WORD;
        }

        private static boolean spells(byte[] bytes, int from, int behind, String word) {
            if (behind - from != word.length()) {
                return false;
            }
            for (int i = 0; i < word.length(); i++) {
                if (bytes[from + i] != word.charAt(i)) {
                    return false;
                }
            }
            return true;
        }
    }

    /**
     * Turns a text into code for the office: its tokens without brackets, each operator behind its
     * operands and each rule's verb behind its expression. The first fault stops it: no token fits
     * from there on, so all reading ends.
     */
    private static final class Parser {
        private static final int NO_FAULT = 0;
        private static final int OUT_OF_PLACE = 1;
        private static final int TOO_MUCH = 2;
        private static final int NO_NAME = 3;
        private static final int STOPPED = -1;
        private static final int MOST_RULES = 12;
        private static final int MOST_AROUND = 5;

        private final Scanner scanner = new Scanner();
        private final int[] code = new int[Tape.MOST];
        private int codeSize = 0;
        private int at = 0;
        private int token = STOPPED;
        private int fault = NO_FAULT;
        private int place = NONE;

        void parse(byte[] bytes, int length) {
            scanner.scan(bytes, length);
            codeSize = 0;
            fault = NO_FAULT;
            place = NONE;
            at = 0;
            token = scanner.tokens[at];
            for (int rule = 0; rule <= MOST_RULES && token != Scanner.END && fault == NO_FAULT; rule++) {
                readRule(rule);
            }
        }

        int[] code() {
            return Arrays.copyOf(code, codeSize);
        }

        private void advance() {
            at = Math.min(at + 1, Tape.MOST);
            token = scanner.tokens[at];
        }

        private void blame(int kind) {
            if (fault == NO_FAULT) {
                fault = kind;
                place = scanner.starts[at];
                token = STOPPED;
            }
        }

        private void emit(int operation) {
            if (codeSize < Tape.MOST) {
                code[codeSize] = operation;
                codeSize++;
            }
        }

        private void readRule(int rule) {
            int verb = token;
            if (verb != Scanner.REFUSE && verb != Scanner.DIFFER && verb != Scanner.FEE) {
                blame(OUT_OF_PLACE);
                return;
            }
            if (rule >= MOST_RULES) {
                blame(TOO_MUCH);
                return;
            }
            advance();
            readExpression(0);
            if (token != ';') {
                blame(OUT_OF_PLACE);
                return;
            }
            advance();
            emit(verb);
        }

        /** Around: how many expressions this one stands within. */
        private void readExpression(int around) {
            if (around > MOST_AROUND) {
                blame(canBeginExpression() ? TOO_MUCH : faultWithoutPart());
                return;
            }
            readTest(around);
            for (int i = 0; i < Tape.MOST && (token == Scanner.AND || token == Scanner.OR); i++) {
                int operator = token;
                advance();
                readTest(around);
                emit(operator);
            }
        }

        private boolean canBeginExpression() {
            return token == '(' || token == Scanner.NOT || Scanner.isNumber(token) || Scanner.isName(token);
        }

        private void readTest(int around) {
            boolean negated = token == Scanner.NOT;
            if (negated) {
                advance();
            }
            readSum(around);
            if (token == '<' || token == '=') {
                int operator = token;
                advance();
                readSum(around);
                emit(operator);
            }
            if (negated) {
                emit(Scanner.NOT);
            }
        }

        private void readSum(int around) {
            readPart(around);
            for (int i = 0; i < Tape.MOST && (token == '+' || token == '-'); i++) {
                int operator = token;
                advance();
                readPart(around);
                emit(operator);
            }
        }

        private void readPart(int around) {
            if (Scanner.isNumber(token) || Scanner.isName(token)) {
                emit(token);
                advance();
            } else if (token == '(') {
                advance();
                readExpression(around + 1);
                if (token == ')') {
                    advance();
                } else {
                    blame(OUT_OF_PLACE);
                }
            } else {
                blame(faultWithoutPart());
            }
        }

        /** The fault of a token that begins no part, where one has to begin. */
        private int faultWithoutPart() {
            if (token == Scanner.LONG_NUMBER) {
                return TOO_MUCH;
            }
            boolean isWord = token >= Scanner.OTHER_WORD && token <= Scanner.NOT;
            return isWord ? NO_NAME : OUT_OF_PLACE;
        }
    }

    private static final class Text {
        private final int[] code;
        private final int from;

        Text(int[] code, int from) {
            this.code = code;
            this.from = from;
        }
    }

    /** The texts, and how one is judged by that in force. */
    private static final class Office {
        private static final int MOST = 6;
        private static final int NAMES = 8;
        // Six expressions one in another leave at most three operands open each.
        private static final int MOST_OPERANDS = 24;

        private final Text[] texts = new Text[MOST];
        private final int[] names = new int[NAMES];
        private final int[] operands = new int[MOST_OPERANDS];
        private int size = 0;
        private int open = 0;
        private boolean refuses = false;
        private boolean differs = false;
        private int fees = 0;

        boolean isFull() {
            return size >= MOST;
        }

        int add(int[] code, int year) {
            if (isFull()) {
                return NONE;
            }
            int number = size;
            texts[number] = new Text(code, year);
            size = number + 1;
            return number;
        }

        void setName(int token, int value) {
            int i = token - Scanner.GRADE;
            if (i >= 0 && i < NAMES) {
                names[i] = value;
            }
        }

        private int nameValue(int token) {
            int i = token - Scanner.GRADE;
            return i >= 0 && i < NAMES ? names[i] : 0;
        }

        /** By the names' values that were set; without a text nothing is asked for. */
        void judge(int year) {
            refuses = false;
            differs = false;
            fees = 0;
            open = 0;
            Text text = inForce(year);
            if (text == null) {
                return;
            }
            for (int i = 0; i < text.code.length; i++) {
                work(text.code[i]);
            }
        }

        /** The text in force in a year, or null. */
        private Text inForce(int year) {
            Text found = null;
            int latest = FIRST_YEAR;
            for (int t = 0; t < size; t++) {
                Text text = texts[t];
                if (text != null && text.from <= year && text.from >= latest) {
                    found = text;
                    latest = text.from;
                }
            }
            return found;
        }

        private void push(int value) {
            if (open < MOST_OPERANDS) {
                operands[open] = value;
                open++;
            }
        }

        private int pop() {
            if (open <= 0) {
                return 0;
            }
            open--;
            return operands[open];
        }

        private void work(int operation) {
            if (Scanner.isNumber(operation)) {
                push(operation - Scanner.FIRST_NUMBER);
            } else if (Scanner.isName(operation)) {
                push(nameValue(operation));
            } else if (operation == Scanner.NOT) {
                push(asInt(pop() == 0));
            } else if (operation == Scanner.REFUSE) {
                refuses = pop() != 0 || refuses;
            } else if (operation == Scanner.DIFFER) {
                differs = pop() != 0 || differs;
            } else if (operation == Scanner.FEE) {
                fees += pop();
            } else {
                int right = pop();
                int left = pop();
                push(joined(operation, left, right));
            }
        }

        private static int joined(int operator, int left, int right) {
            switch (operator) {
                case '+':
                    return left + right;
                case '-':
                    return left - right;
                case '<':
                    return asInt(left < right);
                case '=':
                    return asInt(left == right);
                case Scanner.AND:
                    return asInt(left != 0 && right != 0);
                case Scanner.OR:
                    return asInt(left != 0 || right != 0);
                default:
                    return 0;
            }
        }
    }

    /** Whence a copy was taken is worked out anew each time: an earlier one may be told later. */
    private static final class Copies {
        private static final int MOST = 40;
        private static final int MOST_CHANGES = 4;
        private static final int PLACES = 8;
        private static final int BITS = 4;

        private final int[] years = new int[MOST];
        private final int[] rows = new int[MOST];
        private int size = 0;

        boolean has(int number) {
            return number >= 0 && number < size;
        }

        int add(int year, int row) {
            if (size >= MOST || !isYear(year)) {
                return NONE;
            }
            int number = size;
            years[number] = year;
            rows[number] = row;
            size = number + 1;
            return number;
        }

        private int yearOf(int number) {
            return has(number) ? years[number] : NONE;
        }

        private int rowOf(int number) {
            return has(number) ? rows[number] : 0;
        }

        private int changes(int number, int other) {
            int differing = rowOf(number) ^ rowOf(other);
            int changes = 0;
            for (int i = 0; i < PLACES; i++) {
                if (((differing >>> (i * BITS)) & 15) != 0) {
                    changes++;
                }
            }
            return changes;
        }

        /** Of like ones the least number stays, as it is met first. */
        int sourceOf(int number) {
            int best = NONE;
            int fewest = MOST_CHANGES;
            for (int c = 0; c < size; c++) {
                int found = changes(number, c);
                // While there is no best one its year is NONE, and every year is above that.
                boolean nearer = found < fewest || found == fewest && yearOf(c) > yearOf(best);
                if (yearOf(c) < yearOf(number) && nearer) {
                    best = c;
                    fewest = found;
                }
            }
            return best;
        }

        int changesOf(int number) {
            int source = sourceOf(number);
            return source == NONE ? 0 : changes(number, source);
        }

        int driftOf(int number) {
            int drift = 0;
            int at = number;
            int source = sourceOf(at);
            for (int i = 0; i < MOST && source != NONE; i++) {
                drift += changes(at, source);
                at = source;
                source = sourceOf(at);
            }
            return drift;
        }

        int originalOf(int number) {
            int at = number;
            int source = sourceOf(at);
            for (int i = 0; i < MOST && source != NONE; i++) {
                at = source;
                source = sourceOf(at);
            }
            return at;
        }

        int takenFrom(int number) {
            int taken = 0;
            for (int c = 0; c < size; c++) {
                if (sourceOf(c) == number) {
                    taken++;
                }
            }
            return taken;
        }
    }
}
