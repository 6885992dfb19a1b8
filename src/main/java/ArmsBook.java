import java.util.Arrays;
import java.util.NoSuchElementException;

public final class ArmsBook {
    public static final int NONE = -1;

    private static final int FIRST_YEAR = 1000;
    private static final int LAST_YEAR = 2000;
    private static final int TOO_MANY_TEXTS = -9;

    private final People people = new People();
    private final Grants grants = new Grants();
    private final Proof proof = new Proof();
    private final Quarters quarters = new Quarters();
    private final Tape tape = new Tape();
    private final Office office = new Office();
    private final Reader reader = new Reader();
    private final Copies copies = new Copies();
    private int faultPlace = NONE;

    public ArmsBook() {
    }

    public int person(boolean female, int born, int died) {
        return people.add(female, born, died);
    }

    public boolean parent(int person, int what, int parent, int grade) throws NoSuchElementException {
        requirePerson(person);
        requirePerson(parent);
        switch (what) {
            case 0:
                return people.tellFather(person, parent, grade);
            case 1:
                return people.tellMother(person, parent, grade);
            default:
                throw new NoSuchElementException("neither father nor mother");
        }
    }

    public int grant(int person, int arms, int year) throws NoSuchElementException {
        requirePerson(person);
        return grants.add(person, arms, year);
    }

    public int feed(int a, int b, int c, int d, int e) {
        if (!tape.hasRoom()) {
            return NONE;
        }
        tape.put(a);
        tape.put(b);
        tape.put(c);
        tape.put(d);
        tape.put(e);
        return tape.length();
    }

    public int text(int n, int year) throws IllegalArgumentException {
        if (n < 0 || n > tape.length() || !isYear(year)) {
            throw new IllegalArgumentException("no such bytes or year");
        }
        byte[] bytes = tape.takeFirst(n);
        faultPlace = NONE;
        if (office.isFull()) {
            return TOO_MANY_TEXTS;
        }
        reader.read(bytes);
        if (reader.faultKind() != Reader.NO_FAULT) {
            faultPlace = reader.faultStart();
            return -1 - reader.faultKind();
        }
        return office.add(bytes, year);
    }

    public int fault() {
        return faultPlace;
    }

    public int about(int person, int what) throws NoSuchElementException {
        requirePerson(person);
        switch (what) {
            case 0:
                return people.bornOf(person);
            case 1:
                return people.toldDeathOf(person);
            case 2:
                return people.fatherOf(person);
            case 3:
                return people.motherOf(person);
            case 4:
                return people.fatherGradeOf(person);
            case 5:
                return people.motherGradeOf(person);
            case 6:
                return asInt(people.isFemale(person));
            case 7:
                return people.childrenOf(person);
            default:
                throw new NoSuchElementException("nothing of that number is told of people");
        }
    }

    public int bears(int person, int year, int what) throws NoSuchElementException {
        requirePerson(person);
        proof.find(people, grants, person, year);
        switch (what) {
            case 0:
                return proof.arms();
            case 1:
                return proof.root();
            case 2:
                return proof.steps();
            case 3:
                return proof.grade();
            case 4:
                return asInt(people.isLiving(person, year));
            case 5:
                return asInt(People.isIn(people.livingLines(year), person));
            case 6:
                return asInt(people.isHeiress(person, year, people.livingLines(year)));
            case 7:
                return asInt(proof.isPlain());
            default:
                throw new NoSuchElementException("nothing of that number is told of bearers");
        }
    }

    public int mark(int person, int year, int i) throws NoSuchElementException {
        requirePerson(person);
        proof.find(people, grants, person, year);
        if (i < 0 || i >= proof.steps()) {
            throw new NoSuchElementException("no such mark");
        }
        return proof.markAt(i);
    }

    public int head(int person, int year) throws NoSuchElementException {
        requirePerson(person);
        return people.headOf(person, year);
    }

    public int quarter(int person, int year, int i) throws NoSuchElementException {
        requirePerson(person);
        quarters.fill(people, grants, person, year);
        int size = quarters.sizeOf(person);
        if (i == NONE) {
            return size;
        }
        if (i < 0 || i >= size) {
            throw new NoSuchElementException("no such quarter");
        }
        return quarters.armsAt(person, i);
    }

    public int claim(int person, int arms, int year) throws NoSuchElementException {
        requirePerson(person);
        proof.find(people, grants, person, year);
        if (proof.arms() == NONE || proof.arms() != arms) {
            return 1;
        }
        if (!people.isLiving(person, year)) {
            return 2;
        }
        judge(person, year);
        if (reader.refuses()) {
            return 3;
        }
        return reader.differs() && !proof.isPlain() ? 4 : 0;
    }

    public int fee(int person, int year) throws NoSuchElementException {
        requirePerson(person);
        proof.find(people, grants, person, year);
        if (proof.arms() == NONE) {
            return 0;
        }
        judge(person, year);
        return reader.fees();
    }

    public int rivals(int person, int year) throws NoSuchElementException {
        requirePerson(person);
        proof.find(people, grants, person, year);
        return countRivals(year);
    }

    public int common(int person, int other) throws NoSuchElementException {
        requirePerson(person);
        requirePerson(other);
        long both = people.forebears(person) & people.forebears(other);
        for (int q = people.size() - 1; q >= 0; q--) {
            if (People.isIn(both, q)) {
                return q;
            }
        }
        return NONE;
    }

    public int copy(int year, int row) {
        return copies.add(year, row);
    }

    public int of(int copy, int what) throws NoSuchElementException {
        if (!copies.has(copy)) {
            throw new NoSuchElementException("no such copy");
        }
        switch (what) {
            case 0:
                return copies.sourceOf(copy);
            case 1:
                return copies.changesOf(copy);
            case 2:
                return copies.driftOf(copy);
            case 3:
                return copies.originalOf(copy);
            case 4:
                return copies.takenFrom(copy);
            default:
                throw new NoSuchElementException("nothing of that number is told of copies");
        }
    }

    public int count(int what) throws NoSuchElementException {
        switch (what) {
            case 0:
                return people.size();
            case 1:
                return grants.size();
            case 2:
                return office.size();
            case 3:
                return copies.size();
            case 4:
                return tape.length();
            default:
                throw new NoSuchElementException("nothing of that number is counted");
        }
    }

    private void requirePerson(int person) {
        if (!people.has(person)) {
            throw new NoSuchElementException("no such person");
        }
    }

    /** Reads the text in force for the one whose proof was found last, in the same year. */
    private void judge(int person, int year) {
        Text text = office.inForce(year);
        if (text == null) {
            reader.forget();
            return;
        }
        quarters.fill(people, grants, person, year);
        reader.setName(Reader.GRADE, proof.grade());
        reader.setName(Reader.STEPS, proof.steps());
        reader.setName(Reader.YEAR, year);
        reader.setName(Reader.BORN, people.bornOf(person));
        reader.setName(Reader.FEMALE, asInt(people.isFemale(person)));
        reader.setName(Reader.MARKS, proof.marksAboveOne());
        reader.setName(Reader.RIVALS, countRivals(year));
        reader.setName(Reader.QUARTERS, quarters.sizeOf(person));
        reader.read(text.bytes);
    }

    private int countRivals(int year) {
        if (proof.arms() == NONE) {
            return 0;
        }
        int rivals = 0;
        for (int q = 0; q < people.size(); q++) {
            if (q != proof.root() && grants.ownArms(q, year) == proof.arms()) {
                rivals++;
            }
        }
        return rivals;
    }

    private static boolean isYear(int year) {
        return year >= FIRST_YEAR && year <= LAST_YEAR;
    }

    private static int asInt(boolean truth) {
        return truth ? 1 : 0;
    }

    /**
     * The people and their parents. A parent's number is always the lesser one, so a walk along the
     * numbers meets parents ahead of children; and 60 people fit the bits of one long as a set.
     */
    private static final class People {
        static final int MOST = 60;

        private static final int LONGEST_LIFE = 100;
        private static final int BEST_GRADE = 9;
        private static final int YOUNGEST_PARENT = 14;
        private static final int OLDEST_MOTHER = 50;

        private final boolean[] female = new boolean[MOST];
        private final int[] born = new int[MOST];
        private final int[] died = new int[MOST];
        private final int[] father = new int[MOST];
        private final int[] mother = new int[MOST];
        private final int[] fatherGrade = new int[MOST];
        private final int[] motherGrade = new int[MOST];
        private int size = 0;

        static boolean isIn(long set, int person) {
            return ((set >>> person) & 1L) != 0L;
        }

        int size() {
            return size;
        }

        boolean has(int person) {
            return person >= 0 && person < size;
        }

        int add(boolean isFemale, int bornIn, int diedIn) {
            if (size >= MOST || !isYear(bornIn) || !canDie(bornIn, diedIn)) {
                return NONE;
            }
            int number = size;
            female[number] = isFemale;
            born[number] = bornIn;
            died[number] = diedIn;
            father[number] = NONE;
            mother[number] = NONE;
            size = number + 1;
            return number;
        }

        private static boolean canDie(int bornIn, int diedIn) {
            return diedIn == NONE
                    || isYear(diedIn) && diedIn >= bornIn && diedIn - bornIn <= LONGEST_LIFE;
        }

        boolean tellFather(int child, int parent, int grade) {
            if (!has(child) || !has(parent) || father[child] != NONE) {
                return false;
            }
            if (!isGrade(grade) || !canBeFather(child, parent)) {
                return false;
            }
            father[child] = parent;
            fatherGrade[child] = grade;
            return true;
        }

        boolean tellMother(int child, int parent, int grade) {
            if (!has(child) || !has(parent) || mother[child] != NONE) {
                return false;
            }
            if (!isGrade(grade) || !canBeMother(child, parent)) {
                return false;
            }
            mother[child] = parent;
            motherGrade[child] = grade;
            return true;
        }

        private static boolean isGrade(int grade) {
            return grade >= 1 && grade <= BEST_GRADE;
        }

        private boolean canBeFather(int child, int parent) {
            int birth = bornOf(child);
            return parent < child
                    && !isFemale(parent)
                    && birth - bornOf(parent) >= YOUNGEST_PARENT
                    && lastYearOf(parent) >= birth - 1;
        }

        private boolean canBeMother(int child, int parent) {
            int birth = bornOf(child);
            int age = birth - bornOf(parent);
            return parent < child
                    && isFemale(parent)
                    && age >= YOUNGEST_PARENT
                    && age <= OLDEST_MOTHER
                    && isLiving(parent, birth);
        }

        boolean isFemale(int person) {
            return has(person) && female[person];
        }

        int bornOf(int person) {
            return has(person) ? born[person] : NONE;
        }

        int toldDeathOf(int person) {
            return has(person) ? died[person] : NONE;
        }

        int fatherOf(int person) {
            return has(person) ? father[person] : NONE;
        }

        int motherOf(int person) {
            return has(person) ? mother[person] : NONE;
        }

        int fatherGradeOf(int person) {
            return has(person) ? fatherGrade[person] : 0;
        }

        int motherGradeOf(int person) {
            return has(person) ? motherGrade[person] : 0;
        }

        private int lastYearOf(int person) {
            int told = toldDeathOf(person);
            return told == NONE ? bornOf(person) + LONGEST_LIFE : told;
        }

        boolean isLiving(int person, int year) {
            return bornOf(person) <= year && lastYearOf(person) >= year;
        }

        private boolean isChild(int person, int parent) {
            return fatherOf(person) == parent || motherOf(person) == parent;
        }

        int childrenOf(int person) {
            int children = 0;
            for (int q = 0; q < size; q++) {
                if (isChild(q, person)) {
                    children++;
                }
            }
            return children;
        }

        /** The set of those whose line lives. Nobody in it is born after the year. */
        long livingLines(int year) {
            long lines = 0L;
            for (int q = size - 1; q >= 0; q--) {
                if (!isFemale(q) && isLiving(q, year)) {
                    lines |= 1L << q;
                }
                // Children come first here, so what stands of q by now is final.
                if (isIn(lines, q) && fatherOf(q) != NONE) {
                    lines |= 1L << fatherOf(q);
                }
            }
            return lines;
        }

        private boolean isElder(int person, int other) {
            int gap = bornOf(person) - bornOf(other);
            return gap < 0 || gap == 0 && person < other;
        }

        /** Where one stands among its father's sons of living lines, whether or not it is one of them. */
        int placeOf(int person, long lines) {
            int place = 1;
            for (int q = 0; q < size; q++) {
                if (isIn(lines, q) && fatherOf(q) == fatherOf(person) && isElder(q, person)) {
                    place++;
                }
            }
            return place;
        }

        int headOf(int person, int year) {
            long lines = livingLines(year);
            int at = person;
            for (int i = 0; i < MOST && at != NONE; i++) {
                if (isLiving(at, year)) {
                    return at;
                }
                at = eldestSon(at, lines);
            }
            return NONE;
        }

        private int eldestSon(int parent, long lines) {
            int eldest = NONE;
            for (int q = 0; q < size; q++) {
                if (isIn(lines, q) && isChild(q, parent) && (eldest == NONE || isElder(q, eldest))) {
                    eldest = q;
                }
            }
            return eldest;
        }

        /** The lines are those that live in the same year. */
        boolean isHeiress(int person, int year, long lines) {
            int parent = fatherOf(person);
            return isFemale(person)
                    && parent != NONE
                    && lastYearOf(parent) <= year
                    && eldestSon(parent, lines) == NONE;
        }

        /** Whether a mother's quarters go to her children; the lines are those of the year. */
        boolean bringsQuarters(int person, int year, long lines) {
            if (isHeiress(person, year, lines)) {
                return true;
            }
            int death = lastYearOf(person);
            return death <= year && isHeiress(person, death, livingLines(death));
        }

        /** The set of all from whom one comes down, and oneself. */
        long forebears(int person) {
            long found = has(person) ? 1L << person : 0L;
            for (int q = size - 1; q >= 0; q--) {
                if (isIn(found, q)) {
                    found |= parentsOf(q);
                }
            }
            return found;
        }

        private long parentsOf(int person) {
            long parents = 0L;
            if (fatherOf(person) != NONE) {
                parents |= 1L << fatherOf(person);
            }
            if (motherOf(person) != NONE) {
                parents |= 1L << motherOf(person);
            }
            return parents;
        }
    }

    private static final class Grants {
        private static final int MOST = 40;
        private static final int LAST_ARMS = 99;

        private final int[] holder = new int[MOST];
        private final int[] arms = new int[MOST];
        private final int[] from = new int[MOST];
        private int size = 0;

        int size() {
            return size;
        }

        int add(int person, int coat, int year) {
            if (size >= MOST || coat < 1 || coat > LAST_ARMS || !isYear(year)) {
                return NONE;
            }
            int number = size;
            holder[number] = person;
            arms[number] = coat;
            from[number] = year;
            size = number + 1;
            return number;
        }

        /** The arms that one has by a grant of its own. */
        int ownArms(int person, int year) {
            int found = NONE;
            int latest = FIRST_YEAR;
            for (int g = 0; g < size; g++) {
                if (holder[g] == person && from[g] <= year && from[g] >= latest) {
                    found = arms[g];
                    latest = from[g];
                }
            }
            return found;
        }
    }

    /** How one comes to its arms in a year; made once and found anew for each call. */
    private static final class Proof {
        private static final int BEST_GRADE = 9;

        private final int[] marks = new int[People.MOST];
        private int arms = NONE;
        private int root = NONE;
        private int steps = NONE;
        private int grade = NONE;
        private int marksAboveOne = 0;

        void find(People people, Grants grants, int person, int year) {
            arms = NONE;
            root = NONE;
            steps = NONE;
            grade = NONE;
            marksAboveOne = 0;
            climb(people, grants, person, year);
            if (root != NONE) {
                setMarks(people, person, people.livingLines(year));
            }
        }

        private void climb(People people, Grants grants, int person, int year) {
            int least = BEST_GRADE;
            int at = person;
            for (int up = 0; up < People.MOST && at != NONE; up++) {
                int own = grants.ownArms(at, year);
                if (own != NONE) {
                    arms = own;
                    root = at;
                    steps = up;
                    grade = least;
                    return;
                }
                least = Math.min(least, people.fatherGradeOf(at));
                at = people.fatherOf(at);
            }
        }

        private void setMarks(People people, int person, long lines) {
            int at = person;
            for (int i = Math.min(steps, People.MOST) - 1; i >= 0; i--) {
                marks[i] = people.placeOf(at, lines);
                if (marks[i] > 1) {
                    marksAboveOne++;
                }
                at = people.fatherOf(at);
            }
        }

        int arms() {
            return arms;
        }

        int root() {
            return root;
        }

        int steps() {
            return steps;
        }

        int grade() {
            return grade;
        }

        int markAt(int i) {
            return i >= 0 && i < People.MOST ? marks[i] : NONE;
        }

        int marksAboveOne() {
            return marksAboveOne;
        }

        boolean isPlain() {
            return arms != NONE && marksAboveOne == 0;
        }
    }

    /**
     * The rows of quarters in one year, of one and all its forebears. They are filled from the least
     * number up, each from its parents' rows: by recursion kin who marry kin would be met again and
     * again, twice as often with each generation.
     */
    private static final class Quarters {
        private static final int MOST = 12;

        private final int[] rows = new int[People.MOST * MOST];
        private final int[] sizes = new int[People.MOST];

        void fill(People people, Grants grants, int person, int year) {
            long lines = people.livingLines(year);
            long needed = people.forebears(person);
            for (int q = 0; q < People.MOST; q++) {
                if (People.isIn(needed, q)) {
                    sizes[q] = 0;
                    addRow(q, people.fatherOf(q));
                    addArms(q, grants.ownArms(q, year));
                    int mother = people.motherOf(q);
                    if (mother != NONE && people.bringsQuarters(mother, year, lines)) {
                        addRow(q, mother);
                    }
                }
            }
        }

        private void addRow(int person, int parent) {
            int size = sizeOf(parent);
            for (int i = 0; i < size; i++) {
                addArms(person, armsAt(parent, i));
            }
        }

        private void addArms(int person, int arms) {
            int size = sizeOf(person);
            if (!isPlace(person, size) || arms == NONE || holds(person, arms)) {
                return;
            }
            rows[person * MOST + size] = arms;
            sizes[person] = size + 1;
        }

        private boolean holds(int person, int arms) {
            int size = sizeOf(person);
            for (int i = 0; i < size; i++) {
                if (armsAt(person, i) == arms) {
                    return true;
                }
            }
            return false;
        }

        private static boolean isPlace(int person, int i) {
            return person >= 0 && person < People.MOST && i >= 0 && i < MOST;
        }

        int sizeOf(int person) {
            return person >= 0 && person < People.MOST ? sizes[person] : 0;
        }

        int armsAt(int person, int i) {
            return isPlace(person, i) ? rows[person * MOST + i] : NONE;
        }
    }

    private static final class Tape {
        private static final int MOST = 400;
        private static final int FED_AT_ONCE = 20;

        private final byte[] bytes = new byte[MOST];
        private int length = 0;

        int length() {
            return length;
        }

        boolean hasRoom() {
            return length + FED_AT_ONCE <= MOST;
        }

        void put(int number) {
            for (int shift = 24; shift >= 0 && length < MOST; shift -= 8) {
                bytes[length] = (byte) (number >>> shift);
                length++;
            }
        }

        /** The first n bytes; the tape is empty then. */
        byte[] takeFirst(int n) {
            int taken = Math.max(0, Math.min(n, length));
            length = 0;
            return Arrays.copyOf(bytes, taken);
        }
    }

    private static final class Text {
        private final byte[] bytes;
        private final int from;

        Text(byte[] bytes, int from) {
            this.bytes = bytes;
            this.from = from;
        }
    }

    private static final class Office {
        private static final int MOST = 6;

        private final Text[] texts = new Text[MOST];
        private int size = 0;

        int size() {
            return size;
        }

        boolean isFull() {
            return size >= MOST;
        }

        int add(byte[] bytes, int year) {
            if (isFull()) {
                return NONE;
            }
            int number = size;
            texts[number] = new Text(bytes, year);
            size = number + 1;
            return number;
        }

        /** The text in force in a year, or null. */
        Text inForce(int year) {
            Text found = null;
            int latest = FIRST_YEAR;
            for (int t = 0; t < size; t++) {
                Text text = texts[t];
                if (text != null && text.from <= year && text.from >= latest) {
                    found = text;
                    latest = text.from;
                }
            }
            return found;
        }
    }

    /** The tokens of a text, one at a time. A sign's token is its own byte. */
    private static final class Scanner {
        static final int STOPPED = -1;
        static final int END = 0;
        static final int NO_TOKEN = 1;
        static final int NUMBER = 2;
        static final int LONG_NUMBER = 3;
        static final int NAME = 4;
        static final int REFUSE = 5;
        static final int DIFFER = 6;
        static final int FEE = 7;
        static final int AND = 8;
        static final int OR = 9;
        static final int NOT = 10;
        static final int OTHER_WORD = 11;

        private static final int MOST_DIGITS = 4;

        private byte[] bytes = new byte[0];
        private int next = 0;
        private int start = 0;
        private int token = END;
        private int value = 0;

        void begin(byte[] text) {
            bytes = text;
            next = 0;
            advance();
        }

        void stop() {
            token = STOPPED;
        }

        int token() {
            return token;
        }

        /** A NUMBER's value, or a NAME's place among the names. */
        int value() {
            return value;
        }

        /** The token's first byte; at the end the text's length. */
        int start() {
            return start;
        }

        void advance() {
            next = behindBlanks(next);
            start = next;
            int first = byteAt(start);
            if (start >= bytes.length) {
                token = END;
            } else if (isLetter(first)) {
                next = behindLetters(start);
                setWord();
            } else if (isDigit(first)) {
                next = behindDigits(start);
                setNumber();
            } else {
                next = start + 1;
                token = isSign(first) ? first : NO_TOKEN;
            }
        }

        private int byteAt(int i) {
            return i >= 0 && i < bytes.length ? bytes[i] : 0;
        }

        private static boolean isLetter(int sign) {
            return sign >= 'a' && sign <= 'z';
        }

        private static boolean isDigit(int sign) {
            return sign >= '0' && sign <= '9';
        }

        private static boolean isBlank(int sign) {
            return sign == ' ' || sign == '\n';
        }

        private static boolean isSign(int sign) {
            return sign == '(' || sign == ')' || sign == ';' || sign == '+'
                    || sign == '-' || sign == '<' || sign == '=';
        }

        private int behindBlanks(int from) {
            int i = from;
            while (i < bytes.length && isBlank(byteAt(i))) {
                i++;
            }
            return i;
        }

        private int behindLetters(int from) {
            int i = from;
            while (i < bytes.length && isLetter(byteAt(i))) {
                i++;
            }
            return i;
        }

        private int behindDigits(int from) {
            int i = from;
            while (i < bytes.length && isDigit(byteAt(i))) {
                i++;
            }
            return i;
        }

        private void setNumber() {
            value = 0;
            if (next - start > MOST_DIGITS) {
                token = LONG_NUMBER;
                return;
            }
            token = NUMBER;
            for (int i = start; i < next; i++) {
                value = value * 10 + (byteAt(i) - '0');
            }
        }

        private void setWord() {
            value = nameNumber();
            token = value == NONE ? plainWord() : NAME;
        }

        private int nameNumber() {
            if (spells("grade")) {
                return Reader.GRADE;
            }
            if (spells("steps")) {
                return Reader.STEPS;
            }
            if (spells("year")) {
                return Reader.YEAR;
            }
            if (spells("born")) {
                return Reader.BORN;
            }
            if (spells("female")) {
                return Reader.FEMALE;
            }
            if (spells("marks")) {
                return Reader.MARKS;
            }
            if (spells("rivals")) {
                return Reader.RIVALS;
            }
            return spells("quarters") ? Reader.QUARTERS : NONE;
        }

        private int plainWord() {
            if (spells("refuse")) {
                return REFUSE;
            }
            if (spells("differ")) {
                return DIFFER;
            }
            if (spells("fee")) {
                return FEE;
            }
            if (spells("and")) {
                return AND;
            }
            if (spells("or")) {
                return OR;
            }
            return spells("not") ? NOT : OTHER_WORD;
        }

        private boolean spells(String word) {
            if (next - start != word.length()) {
                return false;
            }
            for (int i = 0; i < word.length(); i++) {
                if (byteAt(start + i) != word.charAt(i)) {
                    return false;
                }
            }
            return true;
        }
    }

    /**
     * Reads a text and works it out in one go, with the names' values that were set. The first fault
     * stops the scanner, so that no token fits from there on and all reading ends.
     */
    private static final class Reader {
        static final int NO_FAULT = 0;

        static final int GRADE = 0;
        static final int STEPS = 1;
        static final int YEAR = 2;
        static final int BORN = 3;
        static final int FEMALE = 4;
        static final int MARKS = 5;
        static final int RIVALS = 6;
        static final int QUARTERS = 7;

        private static final int NAMES = 8;
        private static final int OUT_OF_PLACE = 1;
        private static final int TOO_MUCH = 2;
        private static final int NO_NAME = 3;
        private static final int MOST_RULES = 12;
        private static final int MOST_AROUND = 5;

        private final Scanner scanner = new Scanner();
        private final int[] names = new int[NAMES];
        private int faultKind = NO_FAULT;
        private int faultStart = NONE;
        private boolean refuses = false;
        private boolean differs = false;
        private int fees = 0;

        int faultKind() {
            return faultKind;
        }

        int faultStart() {
            return faultStart;
        }

        boolean refuses() {
            return refuses;
        }

        boolean differs() {
            return differs;
        }

        int fees() {
            return fees;
        }

        void setName(int name, int value) {
            if (name >= 0 && name < NAMES) {
                names[name] = value;
            }
        }

        private int nameValue(int name) {
            return name >= 0 && name < NAMES ? names[name] : 0;
        }

        /** What a year without a text has. */
        void forget() {
            faultKind = NO_FAULT;
            faultStart = NONE;
            refuses = false;
            differs = false;
            fees = 0;
        }

        void read(byte[] text) {
            forget();
            scanner.begin(text);
            for (int rule = 0; rule <= MOST_RULES && scanner.token() != Scanner.END
                    && faultKind == NO_FAULT; rule++) {
                readRule(rule);
            }
        }

        private void blame(int kind) {
            if (faultKind == NO_FAULT) {
                faultKind = kind;
                faultStart = scanner.start();
                scanner.stop();
            }
        }

        private void readRule(int rule) {
            int verb = scanner.token();
            if (verb != Scanner.REFUSE && verb != Scanner.DIFFER && verb != Scanner.FEE) {
                blame(OUT_OF_PLACE);
                return;
            }
            if (rule >= MOST_RULES) {
                blame(TOO_MUCH);
                return;
            }
            scanner.advance();
            int value = readExpression(0);
            if (scanner.token() != ';') {
                blame(OUT_OF_PLACE);
                return;
            }
            scanner.advance();
            apply(verb, value);
        }

        private void apply(int verb, int value) {
            if (verb == Scanner.FEE) {
                fees += value;
            } else if (verb == Scanner.REFUSE) {
                refuses = refuses || value != 0;
            } else {
                differs = differs || value != 0;
            }
        }

        private boolean canBeginExpression() {
            int token = scanner.token();
            return token == Scanner.NUMBER || token == Scanner.NAME || token == Scanner.NOT || token == '(';
        }

        /** Around: how many expressions this one stands within. */
        private int readExpression(int around) {
            if (around > MOST_AROUND && canBeginExpression()) {
                blame(TOO_MUCH);
                return 0;
            }
            int value = readTest(around);
            for (int i = 0; i < Tape.MOST && isJoint(); i++) {
                boolean both = scanner.token() == Scanner.AND;
                scanner.advance();
                boolean left = value != 0;
                boolean right = readTest(around) != 0;
                value = asInt(both ? left && right : left || right);
            }
            return value;
        }

        private boolean isJoint() {
            return scanner.token() == Scanner.AND || scanner.token() == Scanner.OR;
        }

        private int readTest(int around) {
            boolean negated = scanner.token() == Scanner.NOT;
            if (negated) {
                scanner.advance();
            }
            int value = readSum(around);
            int sign = scanner.token();
            if (sign == '<' || sign == '=') {
                scanner.advance();
                int right = readSum(around);
                value = asInt(sign == '<' ? value < right : value == right);
            }
            return negated ? asInt(value == 0) : value;
        }

        private int readSum(int around) {
            int value = readPart(around);
            for (int i = 0; i < Tape.MOST && (scanner.token() == '+' || scanner.token() == '-'); i++) {
                boolean plus = scanner.token() == '+';
                scanner.advance();
                int right = readPart(around);
                value = plus ? value + right : value - right;
            }
            return value;
        }

        private int readPart(int around) {
            int token = scanner.token();
            int value = scanner.value();
            if (token == Scanner.NUMBER) {
                scanner.advance();
                return value;
            }
            if (token == Scanner.NAME) {
                scanner.advance();
                return nameValue(value);
            }
            if (token == '(') {
                scanner.advance();
                return readInner(around + 1);
            }
            blame(faultOfPart(token));
            return 0;
        }

        private int readInner(int around) {
            int value = readExpression(around);
            if (scanner.token() == ')') {
                scanner.advance();
            } else {
                blame(OUT_OF_PLACE);
            }
            return value;
        }

        private static int faultOfPart(int token) {
            if (token == Scanner.LONG_NUMBER) {
                return TOO_MUCH;
            }
            boolean isWord = token >= Scanner.REFUSE && token <= Scanner.OTHER_WORD;
            return isWord ? NO_NAME : OUT_OF_PLACE;
        }
    }

    /** Whence a copy was taken is worked out anew each time: an earlier one may be told later. */
    private static final class Copies {
        private static final int MOST = 40;
        private static final int MOST_CHANGES = 4;
        private static final int PLACES = 8;
        private static final int BITS = 4;

        private final int[] years = new int[MOST];
        private final int[] rows = new int[MOST];
        private int size = 0;

        int size() {
            return size;
        }

        boolean has(int number) {
            return number >= 0 && number < size;
        }

        int add(int year, int row) {
            if (size >= MOST || !isYear(year)) {
                return NONE;
            }
            int number = size;
            years[number] = year;
            rows[number] = row;
            size = number + 1;
            return number;
        }

        private int yearOf(int number) {
            return has(number) ? years[number] : NONE;
        }

        private int rowOf(int number) {
            return has(number) ? rows[number] : 0;
        }

        private int changes(int number, int other) {
            int differing = rowOf(number) ^ rowOf(other);
            int changes = 0;
            for (int i = 0; i < PLACES; i++) {
                if (((differing >>> (i * BITS)) & 15) != 0) {
                    changes++;
                }
            }
            return changes;
        }

        /** Of like ones the least number stays, as it is met first. */
        int sourceOf(int number) {
            int best = NONE;
            int fewest = MOST_CHANGES;
            for (int c = 0; c < size; c++) {
                int found = changes(number, c);
                // While there is no best one its year is NONE, and every year is above that.
                boolean nearer = found < fewest || found == fewest && yearOf(c) > yearOf(best);
                if (yearOf(c) < yearOf(number) && nearer) {
                    best = c;
                    fewest = found;
                }
            }
            return best;
        }

        int changesOf(int number) {
            int source = sourceOf(number);
            return source == NONE ? 0 : changes(number, source);
        }

        int driftOf(int number) {
            int drift = 0;
            int at = number;
            int source = sourceOf(at);
            for (int i = 0; i < MOST && source != NONE; i++) {
                drift += changes(at, source);
                at = source;
                source = sourceOf(at);
            }
            return drift;
        }

        int originalOf(int number) {
            int at = number;
            int source = sourceOf(at);
            for (int i = 0; i < MOST && source != NONE; i++) {
                at = source;
                source = sourceOf(at);
            }
            return at;
        }

        int takenFrom(int number) {
            int taken = 0;
            for (int c = 0; c < size; c++) {
                if (sourceOf(c) == number) {
                    taken++;
                }
            }
            return taken;
        }
    }
}
