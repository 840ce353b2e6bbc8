import java.util.Arrays;

/** A chancery whose ink sets down only what somebody else would say; ../shared/DOC.md says what it must do. */
public final class OtherSideInk {
    public static final int BAD = -1, NO = -2, FULL = -3, NONE = -4;

    private static final String FIRST_TEXT =
            "p0,1;p0,0;p1,0;p2,3;p3,1;p4,0;v0,0,14;v0,1,6;v0,2,18;v1,0,2;v1,1,9;v1,3,16;v2,0,11;v2,4,0;v3,0,18;v3,2,3;v4,0,7;v5,1,4;a4;";

    private static final int THEMES = 5;
    private static final int MOST_PERSONS = 6;
    private static final int MOST_PAPERS = 5;
    private static final int PAPERS_UNTOLD = 3;
    private static final int CLERK = 1, POET = 2, MONK = 3, GIRL = 4;

    /** A VIEW goes from -TOP to TOP inside and is told from 0 to MOST_TOLD outside. */
    private static final int TOP = 9, MOST_TOLD = 18;
    private static final int MOST_TEARS = 10;
    /** Above every VIEW, so that it is never taken for one. */
    private static final int EMPTY = 100;
    /** How many different things a LINE can be: empty or one of the VIEWS. */
    private static final int LINE_STATES = 20;

    private static final int MOST_LETTERS = 200, LOWEST_LETTER = 32, HIGHEST_LETTER = 126;
    private static final int MOST_NUMBERS = 3, MOST_FIGURES = 2;

    private static final int MOST_UNDONE = 8, MOST_KEPT = 2, MOST_SIGNED = 6;
    private static final int MOST_COPYINGS = 60, MOST_ROUNDS = 40;
    private static final int MOST_SEED = 9999, MOST_WEEKS = 60, SUM_SHIFT = 500;

    private static final long[] WAYS_OF_TEN = {1, 10, 45, 120, 210, 252, 210, 120, 45, 10, 1};
    private static final long TEN_TO_TEN = 10000000000L;
    /** Euclid needs fewer steps than this for any two numbers of a long. */
    private static final int DIVISOR_STEPS = 100;

    private final Text text;
    private final Chancery now;
    /** Here it is tried what would be, so that no call makes a Chancery of its own. */
    private final Chancery draft;
    private final Shelf past;
    private final Shelf kept;
    private final Signatures signed;
    /** What a PAPER was behind 0, 1, .. rounds. */
    private final int[] seen;

    public OtherSideInk() {
        text = new Text();
        now = new Chancery();
        draft = new Chancery();
        past = new Shelf(MOST_UNDONE);
        kept = new Shelf(MOST_KEPT);
        signed = new Signatures();
        seen = new int[MOST_ROUNDS + 1];
        for (int i = 0; i < FIRST_TEXT.length(); i++) {
            text.append(FIRST_TEXT.charAt(i));
        }
        text.readInto(now);
        text.clear();
    }

    // ---- chanceries

    public int write(int letter) {
        if (letter < LOWEST_LETTER || letter > HIGHEST_LETTER) {
            return BAD;
        }
        if (text.size() >= MOST_LETTERS) {
            return FULL;
        }
        text.append(letter);
        return text.size();
    }

    public int wipe() {
        int were = text.size();
        text.clear();
        return were;
    }

    public int fault() {
        return text.readInto(draft);
    }

    public int lay() {
        if (text.readInto(draft) != NONE || !draft.canBeLaid()) {
            return NO;
        }
        now.becomeLike(draft);
        signed.clear();
        past.clear();
        kept.clear();
        return now.persons();
    }

    public int person(int p, int what) {
        if (!now.hasPerson(p) || !isUpTo(what, 1)) {
            return BAD;
        }
        return what == 0 ? now.kindOf(p) : now.mindOf(p);
    }

    public int view(int p, int t) {
        if (!now.hasPerson(p) || !isTheme(t)) {
            return BAD;
        }
        return now.viewOf(p, t) + TOP;
    }

    public int line(int a, int t) {
        if (!now.hasPaper(a) || !isTheme(t)) {
            return BAD;
        }
        return told(now.lineOf(a, t));
    }

    public int would(int p, int t, int n) {
        if (!now.hasPerson(p) || !isTheme(t) || !isUpTo(n, MOST_TEARS)) {
            return BAD;
        }
        return now.written(p, t, n) + TOP;
    }

    // ---- papers

    public int set(int a, int p, int t, int n) {
        if (!now.hasPaper(a) || !now.hasPerson(p) || !isTheme(t) || !isUpTo(n, MOST_TEARS)) {
            return BAD;
        }
        past.push(now);
        int says = now.written(p, t, n);
        now.putLine(a, t, says);
        return says + TOP;
    }

    public int erase(int a, int p, int t) {
        if (!now.hasPaper(a) || !now.hasPerson(p) || !isTheme(t)) {
            return BAD;
        }
        int said = now.lineOf(a, t);
        if (said == EMPTY) {
            return NO;
        }
        past.push(now);
        now.putLine(a, t, now.viewOf(p, t));
        return said + TOP;
    }

    public int copy(int a, int b, int p) {
        if (!now.hasPaper(a) || !now.hasPaper(b) || a == b || !now.hasPerson(p)) {
            return BAD;
        }
        past.push(now);
        now.copyPaper(a, b, p);
        return now.filledLinesOf(b);
    }

    public int think(int p, int t, int v) {
        if (!now.hasPerson(p) || !isTheme(t) || !isUpTo(v, MOST_TOLD)) {
            return BAD;
        }
        past.push(now);
        int was = now.viewOf(p, t);
        now.putView(p, t, v - TOP);
        return was + TOP;
    }

    public int mind(int p, int m) {
        if (!now.hasPerson(p) || !now.hasPerson(m)) {
            return BAD;
        }
        past.push(now);
        int was = now.mindOf(p);
        now.putMind(p, m);
        return was;
    }

    public int undo() {
        return past.popInto(now) ? past.size() : NO;
    }

    // ---- what would be

    public int own(int a, int p) {
        if (!now.hasPaper(a) || !now.hasPerson(p)) {
            return BAD;
        }
        int bits = 0;
        for (int t = 0; t < THEMES; t++) {
            if (now.lineOf(a, t) == now.viewOf(p, t)) {
                bits |= 1 << t;
            }
        }
        return bits;
    }

    public int tears(int p, int t, int v) {
        if (!now.hasPerson(p) || !isTheme(t) || !isUpTo(v, MOST_TOLD)) {
            return BAD;
        }
        for (int n = 0; n <= MOST_TEARS; n++) {
            if (now.written(p, t, n) == v - TOP) {
                return n;
            }
        }
        return NONE;
    }

    public int whom(int p, int t, int v) {
        if (!now.hasPerson(p) || !isTheme(t) || !isUpTo(v, MOST_TOLD)) {
            return BAD;
        }
        for (int m = 0; m < now.persons(); m++) {
            if (m != p && now.writtenFor(p, m, t, 0) == v - TOP) {
                return m;
            }
        }
        return NONE;
    }

    public int treaty(int p, int q, int n) {
        if (!now.hasPerson(p) || !now.hasPerson(q) || p == q || !isUpTo(n, MOST_TEARS)) {
            return BAD;
        }
        int bits = 0;
        for (int t = 0; t < THEMES; t++) {
            if (now.writtenFor(p, q, t, n) == now.writtenFor(q, p, t, n)) {
                bits |= 1 << t;
            }
        }
        return bits;
    }

    public int round(int a, int t, int k) {
        if (!now.hasPaper(a) || !isTheme(t) || !isUpTo(k, MOST_COPYINGS)) {
            return BAD;
        }
        int says = now.lineOf(a, t);
        for (int i = 0; i < k; i++) {
            says = now.copied(remainder(i, now.persons()), t, says);
        }
        return told(says);
    }

    public int again(int a, int what) {
        if (!now.hasPaper(a) || !isUpTo(what, 1)) {
            return BAD;
        }
        draft.becomeLike(now);
        put(seen, 0, draft.codeOf(a));
        for (int r = 1; r <= MOST_ROUNDS; r++) {
            draft.goRound(a);
            int code = draft.codeOf(a);
            int before = firstSeen(code, r);
            if (before < r) {
                return what == 0 ? r : before;
            }
            put(seen, r, code);
        }
        return NONE;
    }

    public int least(int a, int p, int what) {
        if (!now.hasPaper(a) || !now.hasPerson(p) || !isUpTo(what, 1)) {
            return BAD;
        }
        if (now.filledLinesOf(a) < THEMES) {
            return NONE;
        }
        int bits = 0;
        for (int t = 0; t < THEMES; t++) {
            if (now.lineOf(a, t) != now.viewOf(p, t)) {
                bits |= 1 << t;
            }
        }
        return what == 0 ? Integer.bitCount(bits) : bits;
    }

    // ---- what was signed

    public int sign(int t, int v) {
        if (!isTheme(t) || !isUpTo(v, MOST_TOLD)) {
            return BAD;
        }
        if (signed.size() >= MOST_SIGNED) {
            return FULL;
        }
        signed.add(t, v - TOP);
        return signed.size();
    }

    public int forget() {
        int were = signed.size();
        signed.clear();
        return were;
    }

    public int who(int what) {
        if (!isUpTo(what, 1)) {
            return BAD;
        }
        int many = 0;
        int first = NONE;
        for (int p = 0; p < now.persons(); p++) {
            for (int m = 0; m < now.persons(); m++) {
                for (int n = 0; n <= MOST_TEARS; n++) {
                    if (m != p && signed.areAllWritten(now, p, m, n)) {
                        many++;
                        first = first == NONE ? 1000 * p + 100 * m + n : first;
                    }
                }
            }
        }
        return what == 0 ? many : first;
    }

    public int views(int p, int t, int n) {
        if (!now.hasPerson(p) || !isTheme(t) || !isUpTo(n, MOST_TEARS)) {
            return BAD;
        }
        draft.becomeLike(now);
        int bits = 0;
        for (int v = 0; v <= MOST_TOLD; v++) {
            draft.putView(p, t, v - TOP);
            if (signed.areAllWritten(draft, p, draft.mindOf(p), n)) {
                bits |= 1 << v;
            }
        }
        return bits;
    }

    // ---- drops, weeks

    public long drops(int p, int t, int v, int x, int part) {
        if (!now.hasPerson(p) || !isTheme(t) || !isUpTo(v, MOST_TOLD)) {
            return BAD;
        }
        if (!isUpTo(x, MOST_TEARS) || !isUpTo(part, 1)) {
            return BAD;
        }
        long above = 0;
        for (int n = 0; n <= MOST_TEARS; n++) {
            if (now.written(p, t, n) == v - TOP) {
                above += waysOfTears(n, x);
            }
        }
        long whole = part == 0 ? above : TEN_TO_TEN;
        long shared = greatestDivisor(above, TEN_TO_TEN);
        return shared > 0 ? whole / shared : whole;
    }

    public int weeks(int z, int n, int what) {
        if (!isUpTo(z, MOST_SEED) || n < 1 || n > MOST_WEEKS || !isUpTo(what, 1)) {
            return BAD;
        }
        draft.becomeLike(now);
        for (int k = 0; k < n; k++) {
            int drawn = drawOf(z, k);
            int t = drawn / 8 % THEMES;
            int says = draft.written(remainder(drawn, draft.persons()), t, drawn / 64 % (MOST_TEARS + 1));
            draft.putLine(remainder(k, draft.papers()), t, says);
        }
        return what == 0 ? draft.filledLines() : draft.sumOfLines() + SUM_SHIFT;
    }

    public int keep() {
        if (kept.size() >= MOST_KEPT) {
            return FULL;
        }
        kept.push(now);
        return kept.size();
    }

    public int back() {
        if (!kept.popInto(now)) {
            return NO;
        }
        past.clear();
        return kept.size();
    }

    public int count(int what) {
        switch (what) {
            case 0: return now.persons();
            case 1: return now.papers();
            case 2: return now.filledLines();
            case 3: return signed.size();
            case 4: return past.size();
            case 5: return kept.size();
            case 6: return text.size();
            default: return BAD;
        }
    }

    private int firstSeen(int code, int rounds) {
        for (int r = 0; r < rounds; r++) {
            if (at(seen, r) == code) {
                return r;
            }
        }
        return rounds;
    }

    private static boolean isUpTo(int number, int most) {
        return number >= 0 && number <= most;
    }

    private static boolean isTheme(int t) {
        return t >= 0 && t < THEMES;
    }

    private static int told(int says) {
        return says == EMPTY ? NONE : says + TOP;
    }

    private static int at(int[] row, int place) {
        return place >= 0 && place < row.length ? row[place] : 0;
    }

    private static void put(int[] row, int place, int number) {
        if (place >= 0 && place < row.length) {
            row[place] = number;
        }
    }

    private static int remainder(int number, int divisor) {
        return divisor > 0 ? number % divisor : 0;
    }

    private static int drawOf(int z, int k) {
        // x times x is above what an int holds
        long x = 7919L * z + 6151L * k + 1;
        return (int) (x * x % 65521 / 2);
    }

    /** Out of TEN_TO_TEN: with how many of them just n of ten drops are TEARS. */
    private static long waysOfTears(int n, int x) {
        long ways = n >= 0 && n < WAYS_OF_TEN.length ? WAYS_OF_TEN[n] : 0;
        for (int drop = 0; drop < MOST_TEARS; drop++) {
            ways *= drop < n ? x : MOST_TEARS - x;
        }
        return ways;
    }

    private static long greatestDivisor(long one, long other) {
        long high = other;
        long low = one;
        for (int i = 0; i < DIVISOR_STEPS && low != 0; i++) {
            long left = high % low;
            high = low;
            low = left;
        }
        return high;
    }

    /** What ink of a KIND sets down, thought being the VIEW of whom the writer has in mind. */
    private static int inked(int kind, int thought, int own, int n) {
        switch (kind) {
            case CLERK: return thought;
            case POET: return mixed(-thought, own, n);
            case MONK: return 0;
            case GIRL: return TOP;
            default: return mixed(thought, own, n);
        }
    }

    private static int mixed(int thought, int own, int n) {
        return ((MOST_TEARS - n) * thought + n * own) / 10;
    }

    /** What a LINE says behind a COPYING by a PERSON of a KIND. */
    private static int carried(int kind, int says, int thought) {
        switch (kind) {
            case CLERK: return toward(says, thought, 2);
            case MONK: return toward(says, 0, 1);
            case GIRL: return toward(says, TOP, 1);
            default: return toward(says, thought, 1);
        }
    }

    private static int toward(int from, int to, int most) {
        return from < to ? Math.min(to, from + most) : Math.max(to, from - most);
    }

    /** Everything that can be UNDONE or KEPT: PERSONS with their VIEWS, PAPERS with their LINES. */
    private static final class Chancery {
        private int personCount;
        private int paperCount;
        private final int[] kindRow;
        private final int[] mindRow;
        private final int[] viewRow;
        private final int[] lineRow;

        Chancery() {
            kindRow = new int[MOST_PERSONS];
            mindRow = new int[MOST_PERSONS];
            viewRow = new int[MOST_PERSONS * THEMES];
            lineRow = new int[MOST_PAPERS * THEMES];
        }

        void becomeBlank() {
            personCount = 0;
            paperCount = PAPERS_UNTOLD;
            Arrays.fill(kindRow, 0);
            Arrays.fill(mindRow, 0);
            Arrays.fill(viewRow, 0);
            Arrays.fill(lineRow, EMPTY);
        }

        void becomeLike(Chancery other) {
            personCount = other.personCount;
            paperCount = other.paperCount;
            takeRow(other.kindRow, kindRow);
            takeRow(other.mindRow, mindRow);
            takeRow(other.viewRow, viewRow);
            takeRow(other.lineRow, lineRow);
        }

        private static void takeRow(int[] from, int[] to) {
            System.arraycopy(from, 0, to, 0, Math.min(from.length, to.length));
        }

        int persons() {
            return personCount;
        }

        int papers() {
            return paperCount;
        }

        boolean hasPerson(int p) {
            return p >= 0 && p < personCount;
        }

        boolean hasPaper(int a) {
            return a >= 0 && a < paperCount;
        }

        boolean tellPerson(int kind, int m) {
            if (personCount >= MOST_PERSONS || !isUpTo(kind, GIRL) || !isUpTo(m, MOST_PERSONS - 1)) {
                return false;
            }
            put(kindRow, personCount, kind);
            put(mindRow, personCount, m);
            personCount++;
            return true;
        }

        boolean tellView(int p, int t, int v) {
            if (!hasPerson(p) || !isTheme(t) || !isUpTo(v, MOST_TOLD)) {
                return false;
            }
            putView(p, t, v - TOP);
            return true;
        }

        boolean tellPapers(int many) {
            if (many < 1 || many > MOST_PAPERS) {
                return false;
            }
            paperCount = many;
            return true;
        }

        boolean canBeLaid() {
            for (int p = 0; p < personCount; p++) {
                if (!hasPerson(mindOf(p))) {
                    return false;
                }
            }
            return personCount > 0;
        }

        int kindOf(int p) {
            return at(kindRow, p);
        }

        int mindOf(int p) {
            return at(mindRow, p);
        }

        void putMind(int p, int m) {
            put(mindRow, p, m);
        }

        int viewOf(int p, int t) {
            return at(viewRow, p * THEMES + t);
        }

        void putView(int p, int t, int says) {
            put(viewRow, p * THEMES + t, says);
        }

        int lineOf(int a, int t) {
            return at(lineRow, a * THEMES + t);
        }

        void putLine(int a, int t, int says) {
            put(lineRow, a * THEMES + t, says);
        }

        int written(int p, int t, int n) {
            return writtenFor(p, mindOf(p), t, n);
        }

        int writtenFor(int p, int m, int t, int n) {
            return inked(kindOf(p), viewOf(m, t), viewOf(p, t), n);
        }

        int copied(int p, int t, int says) {
            return says == EMPTY ? EMPTY : carried(kindOf(p), says, viewOf(mindOf(p), t));
        }

        void copyPaper(int a, int b, int p) {
            for (int t = 0; t < THEMES; t++) {
                putLine(b, t, copied(p, t, lineOf(a, t)));
            }
        }

        void goRound(int a) {
            for (int p = 0; p < personCount; p++) {
                copyPaper(a, a, p);
            }
        }

        /** One number for all that a PAPER says: two PAPERS are alike where theirs are. */
        int codeOf(int a) {
            int code = 0;
            for (int t = 0; t < THEMES; t++) {
                int says = lineOf(a, t);
                code = code * LINE_STATES + (says == EMPTY ? LINE_STATES - 1 : says + TOP);
            }
            return code;
        }

        int filledLinesOf(int a) {
            int filled = 0;
            for (int t = 0; t < THEMES; t++) {
                filled += lineOf(a, t) == EMPTY ? 0 : 1;
            }
            return filled;
        }

        int filledLines() {
            int filled = 0;
            for (int a = 0; a < paperCount; a++) {
                filled += filledLinesOf(a);
            }
            return filled;
        }

        int sumOfLines() {
            int sum = 0;
            for (int a = 0; a < paperCount; a++) {
                for (int t = 0; t < THEMES; t++) {
                    int says = lineOf(a, t);
                    sum += says == EMPTY ? 0 : says;
                }
            }
            return sum;
        }
    }

    /** THE TEXT, and the reading of it. */
    private static final class Text {
        private final int[] letters;
        private int length;
        private final int[] numbers;
        private int numberCount;

        Text() {
            letters = new int[MOST_LETTERS];
            numbers = new int[MOST_NUMBERS];
        }

        int size() {
            return length;
        }

        void clear() {
            length = 0;
        }

        void append(int letter) {
            if (length < MOST_LETTERS) {
                put(letters, length, letter);
                length++;
            }
        }

        /** Reads all ITEMS into a Chancery; answers FAULT or NONE. */
        int readInto(Chancery target) {
            target.becomeBlank();
            int place = 0;
            for (int item = 0; item < MOST_LETTERS && place < length; item++) {
                int behind = readNumbers(place + 1);
                if (behind == NONE || !tellItem(letterAt(place), target)) {
                    return place;
                }
                place = behind;
            }
            return NONE;
        }

        /** Reads numbers from a place on; answers the place behind their ; or NONE. */
        private int readNumbers(int from) {
            numberCount = 0;
            int place = from;
            for (int i = 0; i < MOST_NUMBERS; i++) {
                int figures = figuresAt(place);
                if (figures < 1) {
                    return NONE;
                }
                put(numbers, i, numberAt(place, figures));
                numberCount++;
                place += figures;
                int mark = letterAt(place);
                place++;
                if (mark == ';') {
                    return place;
                }
                if (mark != ',') {
                    return NONE;
                }
            }
            return NONE;
        }

        private boolean tellItem(int letter, Chancery target) {
            switch (letter) {
                case 'p': return numberCount == 2 && target.tellPerson(at(numbers, 0), at(numbers, 1));
                case 'v': return numberCount == 3
                        && target.tellView(at(numbers, 0), at(numbers, 1), at(numbers, 2));
                case 'a': return numberCount == 1 && target.tellPapers(at(numbers, 0));
                default: return false;
            }
        }

        /** A figure too many is left standing, where it is no mark that may follow. */
        private int figuresAt(int place) {
            int figures = 0;
            for (int i = 0; i < MOST_FIGURES && isFigure(letterAt(place + i)); i++) {
                figures++;
            }
            return figures;
        }

        private int numberAt(int place, int figures) {
            int number = 0;
            for (int i = 0; i < figures; i++) {
                number = number * 10 + letterAt(place + i) - '0';
            }
            return number;
        }

        private static boolean isFigure(int letter) {
            return letter >= '0' && letter <= '9';
        }

        private int letterAt(int place) {
            return place < length ? at(letters, place) : NONE;
        }
    }

    /** Chanceries laid one on the other; where there is no room the lowest one is taken away. */
    private static final class Shelf {
        private final Chancery[] places;
        private int lowest;
        private int size;

        Shelf(int room) {
            places = new Chancery[Math.max(room, 0)];
            for (int i = 0; i < places.length; i++) {
                places[i] = new Chancery();
            }
        }

        int size() {
            return size;
        }

        void clear() {
            size = 0;
        }

        void push(Chancery one) {
            Chancery free = placeAbove(size);
            if (free == null) {
                return;
            }
            free.becomeLike(one);
            if (size < places.length) {
                size++;
            } else {
                lowest = remainder(lowest + 1, places.length);
            }
        }

        boolean popInto(Chancery one) {
            Chancery top = size > 0 ? placeAbove(size - 1) : null;
            if (top == null) {
                return false;
            }
            one.becomeLike(top);
            size--;
            return true;
        }

        private Chancery placeAbove(int steps) {
            int place = remainder(lowest + steps, places.length);
            return place >= 0 && place < places.length ? places[place] : null;
        }
    }

    /** What is SIGNED. */
    private static final class Signatures {
        private final int[] themeRow;
        private final int[] saidRow;
        private int size;

        Signatures() {
            themeRow = new int[MOST_SIGNED];
            saidRow = new int[MOST_SIGNED];
        }

        int size() {
            return size;
        }

        void clear() {
            size = 0;
        }

        void add(int t, int said) {
            put(themeRow, size, t);
            put(saidRow, size, said);
            size++;
        }

        boolean areAllWritten(Chancery chancery, int p, int m, int n) {
            for (int i = 0; i < size; i++) {
                if (chancery.writtenFor(p, m, at(themeRow, i), n) != at(saidRow, i)) {
                    return false;
                }
            }
            return true;
        }
    }
}
