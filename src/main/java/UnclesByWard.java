import java.util.Arrays;

/** Uncles are appointed by the ward: who suits whom, by a text that says how much. The document's words stand in capitals. */
public final class UnclesByWard {
    public static final int NONE = -1, BAD = -2, STATE = -3, FULL = -4;
    public static final long NO = -4611686018427387904L;

    private static final int NO_SUCH = -5, NO_WHAT = -7;
    private static final int NOTHING_THERE = -11, OUTSIDE = -12, UNLIKE = -13, BELOW_ZERO = -14;
    private static final int NONE_ASKED = -1000, NO_SUCH_SUIT = -1000005, NO_WHAT_SUIT = -1000007;

    private static final int MOST = 6, PLACES = 4, DIGITS_ABOVE = 10000, LAST_YEAR = 99;
    private static final int SHEETS = 4, LONGEST_SHEET = 40, TAPE = 160, FED = 5;
    private static final int LONGEST_RUN = 40, LAST_SEED = 99999, MOST_SEEDS = 60, LEAST = 9999;

    private static final int UNCLE = 0, JOLLY = 1, SAD = 2, DWARF = 3, ORPHAN = 4, AUNT = 5, KINDS = 6, MORES = 10;
    private static final int WHETHER = 6;
    /** The KIND above each KIND; an UNCLE has none. */
    private static final int[] ABOVE = {NONE, UNCLE, UNCLE, JOLLY, SAD, UNCLE};

    private static final int SUITS = 0, LIKES = 1, TIRES = 2, PARTS = 3;
    private static final int MARK = 0, NEED = 1, WHICH = 2, YEAR = 3, HIRED = 4, MORE = 5, NAMES = 6;
    private static final String FIRST_LAW = "suits mark * need ; likes 9 - need ; tires year < 3 ;";

    /** A step of a LAW below NAMED is a NUMBER, below WORKED a NAME, else what to do with the values so far. */
    private static final int NAMED = 10000, WORKED = 20000;
    private static final int DO_OR = 20000, DO_AND = 20001, DO_LESS = 20002, DO_SAME = 20003;
    private static final int DO_PLUS = 20004, DO_MINUS = 20005, DO_TIMES = 20006, DO_NOT = 20007, DO_NEGATE = 20008;
    /** A value waits for each of or, and, <, +, * at each of six depths at most: 31 values. */
    private static final int STACK = 64;

    private static final int[] TENS = {1, 10, 100, 1000, 10000, 100000};
    /** Above every ROW, so that a ROW can stand in the low bits below a sum. */
    private static final int ROW_BITS = 20;

    private final Law[] texts = new Law[MOST];
    private final Reader reader = new Reader();
    private final Ward now;
    private final Ward kept;
    private final Ward thought;
    private final Table table = new Table();
    private final Sheet[] sheets = new Sheet[SHEETS];
    private int textCount;
    private boolean isKept;

    public UnclesByWard() {
        for (int t = 0; t < MOST; t++) {
            texts[t] = new Law();
        }
        for (int s = 0; s < SHEETS; s++) {
            sheets[s] = new Sheet();
        }
        now = new Ward(texts);
        kept = new Ward(texts);
        thought = new Ward(texts);
        for (int i = 0; i < FIRST_LAW.length(); i++) {
            reader.append(FIRST_LAW.charAt(i));
        }
        reader.read(texts[0]);
        textCount = 1;
    }

    // ---- children, the law, uncles

    public int count(int what) {
        switch (what) {
            case 0: return now.children;
            case 1: return now.uncles;
            case 2: return now.year;
            case 3: return now.appointed();
            case 4: return textCount;
            case 5: return now.law;
            case 6: return reader.size;
            default: return BAD;
        }
    }

    public int child(int needs) {
        return now.addChild(needs);
    }

    public int feed(int n, int a, int b, int c, int d, int e) {
        if (n < 1 || n > FED || !isByte(a) || !isByte(b) || !isByte(c) || !isByte(d) || !isByte(e)) {
            return BAD;
        }
        if (reader.size + n > TAPE) {
            return FULL;
        }
        for (int i = 0; i < n; i++) {
            reader.append(i == 0 ? a : i == 1 ? b : i == 2 ? c : i == 3 ? d : e);
        }
        return reader.size;
    }

    public int text() {
        if (textCount >= MOST) {
            return FULL;
        }
        int fault = reader.read(texts[textCount]);
        if (fault >= 0) {
            return -100 - fault;
        }
        textCount++;
        return textCount - 1;
    }

    public int force(int t) {
        if (t < 0 || t >= textCount) {
            return BAD;
        }
        int was = now.law;
        now.law = t;
        return was;
    }

    public int asks(int part, int u, int childMark) {
        if (part < 0 || part >= PARTS || !now.isUncle(u) || childMark < 0) {
            return NONE_ASKED;
        }
        int c = childMark / 10;
        int place = childMark % 10;
        if (!now.isChild(c) || place >= PLACES) {
            return NONE_ASKED;
        }
        return now.says(part, u, place, now.needs[c * PLACES + place]);
    }

    public int uncle(int kindMore, int marks) {
        return now.addUncle(kindMore, marks);
    }

    public int put(int of, int what, int v) {
        if (what == 0 && !now.isChild(of) || what == 1 && !now.isUncle(of)) {
            return NO_SUCH;
        }
        if (what < 0 || what > 2 || v < 0 || v >= (what == 2 ? LAST_YEAR + 1 : DIGITS_ABOVE)) {
            return NO_WHAT;
        }
        if (what == 2) {
            int was = now.year;
            now.year = v;
            return was;
        }
        int[] row = what == 0 ? now.needs : now.marks;
        int was = digitsAt(row, of);
        putDigits(row, of, v);
        return was;
    }

    public int told(int of, int what) {
        if (what < 0 || what > 6) {
            return NO_WHAT;
        }
        if (what < 2 ? !now.isChild(of) : !now.isUncle(of)) {
            return NO_SUCH;
        }
        switch (what) {
            case 0: return digitsAt(now.needs, of);
            case 1: return now.has[of];
            case 2: return digitsAt(now.marks, of);
            case 3: return now.kind[of];
            case 4: return now.more[of];
            case 5: return now.hired(of);
            default: return now.room(of);
        }
    }

    // ---- who suits whom, years

    public int suit(int c, int u, int what) {
        if (!now.isChild(c) || !now.isUncle(u)) {
            return NO_SUCH_SUIT;
        }
        if (!isEither(what)) {
            return NO_WHAT_SUIT;
        }
        return what == 0 ? now.suits(c, u) : now.likes(c, u);
    }

    public int all() {
        return now.allSuited();
    }

    public int appoint(int c, int u) {
        if (!now.isChild(c) || u != NONE && !now.isUncle(u)) {
            return NO_SUCH;
        }
        int had = now.has[c];
        if (u != NONE && u != had && now.hired(u) >= now.room(u)) {
            return STATE;
        }
        now.has[c] = u;
        return had;
    }

    public int year() {
        if (now.year >= LAST_YEAR) {
            return STATE;
        }
        now.passYear();
        return now.allNeeds();
    }

    public int run(int n, int what) {
        if (n < 0 || n > LONGEST_RUN) {
            return BAD;
        }
        if (what != 0 && !now.isChild(what - 10) && !now.isUncle(what - 20)) {
            return BAD;
        }
        thought.become(now);
        for (int i = 0; i < n; i++) {
            thought.passYear();
        }
        if (what == 0) {
            return thought.allNeeds();
        }
        return what < 20 ? digitsAt(thought.needs, what - 10) : digitsAt(thought.marks, what - 20);
    }

    // ---- whom all had best have

    public int best(int what) {
        if (!isEither(what)) {
            return BAD;
        }
        table.readSuits(now);
        long most = table.most(NONE);
        return what == 0 ? rowOf(most) : sumOf(most);
    }

    public int settled(int what) {
        if (what < 0 || what > 2) {
            return BAD;
        }
        table.readSuits(now);
        table.readLikes(now);
        table.settle();
        return what == 0 ? table.rowDigits() : what == 1 ? table.rowSuited() : table.rowAppointed();
    }

    public int would(int what) {
        if (!isEither(what)) {
            return BAD;
        }
        for (int c = 0; c < now.children; c++) {
            int u = firstRather(c);
            if (u != NONE) {
                return what == 0 ? c : u;
            }
        }
        return NONE;
    }

    public int swap(int what) {
        if (!isEither(what)) {
            return BAD;
        }
        // None changes how many CHILDREN an UNCLE has, so that what SUITS says stays.
        table.readSuits(now);
        int most = table.suitedBy(now.has);
        int pair = NONE;
        for (int one = 0; one < now.children; one++) {
            for (int other = one + 1; other < now.children; other++) {
                System.arraycopy(now.has, 0, table.row, 0, MOST);
                table.row[one] = now.has[other];
                table.row[other] = now.has[one];
                if (table.rowSuited() > most) {
                    most = table.rowSuited();
                    pair = 10 * one + other;
                }
            }
        }
        return what == 0 ? pair : most;
    }

    public int ranks(int c) {
        if (!now.isChild(c)) {
            return NO_SUCH;
        }
        table.readSuits(now);
        int ranked = 0;
        int digits = 0;
        for (int i = 0; i < now.uncles; i++) {
            int u = table.mostSuiting(c, ranked);
            if (u != NONE) {
                ranked |= 1 << u;
                digits = digits * 10 + u + 1;
            }
        }
        return digits;
    }

    public int spare(int what) {
        if (!isEither(what)) {
            return BAD;
        }
        table.readSuits(now);
        int spared = NONE;
        int most = 0;
        for (int u = 0; u < now.uncles; u++) {
            int without = sumOf(table.most(u));
            if (spared == NONE || without > most) {
                spared = u;
                most = without;
            }
        }
        return what == 0 ? spared : most;
    }

    // ---- told suits

    public int judge(int s, int u) {
        int refusal = refusalToJudge(s, u);
        return refusal != 0 ? refusal : firstOtherwise(now, sheetAt(s), u);
    }

    public int kinds(int s, int u, int sort) {
        int refusal = refusalToJudge(s, u);
        if (refusal != 0) {
            return refusal;
        }
        if (!isEither(sort)) {
            return NO_WHAT;
        }
        thought.become(now);
        int[] row = sort == 0 ? thought.kind : thought.more;
        int bits = 0;
        for (int i = 0; i < (sort == 0 ? KINDS : MORES); i++) {
            row[u] = i;
            if (firstOtherwise(thought, sheetAt(s), u) == NONE) {
                bits |= 1 << i;
            }
        }
        return bits;
    }

    public int marks(int s, int u, int k) {
        int refusal = refusalToJudge(s, u);
        if (refusal != 0) {
            return refusal;
        }
        if (k < 0 || k >= PLACES) {
            return NO_WHAT;
        }
        thought.become(now);
        int bits = 0;
        for (int mark = 0; mark < 10; mark++) {
            thought.marks[u * PLACES + k] = mark;
            if (firstOtherwise(thought, sheetAt(s), u) == NONE) {
                bits |= 1 << mark;
            }
        }
        return bits;
    }

    public int when(int s, int u, int what) {
        int refusal = refusalToJudge(s, u);
        if (refusal != 0) {
            return refusal;
        }
        if (!isEither(what)) {
            return NO_WHAT;
        }
        thought.become(now);
        int first = NONE;
        int years = 0;
        for (int y = 0; y <= LAST_YEAR; y++) {
            thought.year = y;
            if (firstOtherwise(thought, sheetAt(s), u) == NONE) {
                years++;
                first = first == NONE ? y : first;
            }
        }
        return what == 0 ? years : first;
    }

    public int whose(int s) {
        int refusal = refusalToRead(s);
        if (refusal != 0) {
            return refusal;
        }
        int bits = 0;
        for (int u = 0; u < now.uncles; u++) {
            if (firstOtherwise(now, sheetAt(s), u) == NONE) {
                bits |= 1 << u;
            }
        }
        return bits;
    }

    public int laws(int s, int u) {
        int refusal = refusalToJudge(s, u);
        if (refusal != 0) {
            return refusal;
        }
        thought.become(now);
        int bits = 0;
        for (int t = 0; t < textCount; t++) {
            thought.law = t;
            if (firstOtherwise(thought, sheetAt(s), u) == NONE) {
                bits |= 1 << t;
            }
        }
        return bits;
    }

    public int film(int s, int u) {
        Sheet sheet = sheetAt(s);
        if (sheet == null) {
            return BAD;
        }
        if (!now.isUncle(u)) {
            return NO_SUCH;
        }
        sheet.become(Sheet.INTS, now.children);
        for (int c = 0; c < now.children; c++) {
            sheet.write(c, now.suits(c, u));
        }
        return now.children;
    }

    // ---- lists by lots

    public int drawn(int seed, int what) {
        if (seed < 0 || seed > LAST_SEED || !isEither(what)) {
            return BAD;
        }
        table.readSuits(now);
        table.draw(seed);
        return what == 0 ? table.rowSuited() : table.rowDigits();
    }

    public long odds(int seed, int seeds, int least, int part) {
        if (seed < 0 || seed > LAST_SEED || seeds < 1 || seeds > MOST_SEEDS) {
            return NO;
        }
        if (least < -LEAST || least > LEAST || !isEither(part)) {
            return NO;
        }
        table.readSuits(now);
        int enough = 0;
        for (int i = 0; i < seeds; i++) {
            table.draw(seed + i);
            if (table.rowSuited() >= least) {
                enough++;
            }
        }
        int divisor = commonDivisor(enough, seeds);
        return (part == 0 ? enough : seeds) / divisor;
    }

    public int image() {
        kept.become(now);
        isKept = true;
        return now.uncles;
    }

    public int back() {
        if (!isKept) {
            return STATE;
        }
        now.become(kept);
        return now.uncles;
    }

    // ---- the host

    public int sheet(int s, int sort, int n) {
        Sheet sheet = sheetAt(s);
        if (sheet == null || sort < Sheet.MISSING || sort > Sheet.INTS) {
            return BAD;
        }
        if (sort == Sheet.MISSING) {
            sheet.become(Sheet.MISSING, 0);
            return 1;
        }
        if (n > LONGEST_SHEET) {
            return BAD;
        }
        if (n < 0) {
            return BELOW_ZERO;
        }
        sheet.become(sort, n);
        return 1;
    }

    public int cell(int s, int i, int v) {
        Sheet sheet = sheetAt(s);
        if (sheet == null) {
            return BAD;
        }
        if (sheet.isMissing()) {
            return NOTHING_THERE;
        }
        if (!sheet.hasRun(i, 1)) {
            return OUTSIDE;
        }
        sheet.write(i, v);
        return 1;
    }

    public int copy(int s, int i, int other, int j, int n) {
        Sheet from = sheetAt(s);
        Sheet to = sheetAt(other);
        if (from == null || to == null) {
            return BAD;
        }
        if (from.isMissing() || to.isMissing()) {
            return NOTHING_THERE;
        }
        if (from.sort != to.sort) {
            return UNLIKE;
        }
        if (!from.hasRun(i, n) || !to.hasRun(j, n)) {
            return OUTSIDE;
        }
        System.arraycopy(from.cells, i, to.cells, j, n);
        return n;
    }

    public int unclesBy(int s, int sort, int from, int n) {
        Sheet sheet = sheetAt(s);
        if (sheet == null || sort < Sheet.BYTES || sort > Sheet.INTS || n < 0 || n > MOST) {
            return BAD;
        }
        if (sheet.isMissing()) {
            return NOTHING_THERE;
        }
        if (sheet.sort != sort) {
            return UNLIKE;
        }
        int came = 0;
        for (int i = 0; i < n; i++) {
            // All that is asked for lies behind from: one run from there on, that can't wrap.
            if (!sheet.hasRun(from, 2 * i + 2)) {
                return OUTSIDE;
            }
            if (now.addUncle(sheet.cells[from + 2 * i], sheet.cells[from + 2 * i + 1]) >= 0) {
                came++;
            }
        }
        return came;
    }

    public int taken(int i, int kind) {
        if (kind < 0 || kind > WHETHER) {
            return BAD;
        }
        if (i < 0 || i >= 2 * MOST) {
            return OUTSIDE;
        }
        int u = i % MOST;
        if (!now.isUncle(u)) {
            return NOTHING_THERE;
        }
        if (i >= MOST) {
            return kind != WHETHER ? UNLIKE : now.hired(u) < now.room(u) ? 1 : 0;
        }
        return isOfKind(now.kind[u], kind) ? u : UNLIKE;
    }

    // ---- what the calls share

    private Sheet sheetAt(int s) {
        return s < 0 || s >= SHEETS ? null : sheets[s];
    }

    /** 0, or why a SHEET can't tell how much an UNCLE SUITS the CHILDREN. */
    private int refusalToRead(int s) {
        Sheet sheet = sheetAt(s);
        if (sheet == null) {
            return BAD;
        }
        if (sheet.isMissing()) {
            return NOTHING_THERE;
        }
        return sheet.size > now.children ? BAD : 0;
    }

    private int refusalToJudge(int s, int u) {
        int refusal = refusalToRead(s);
        return refusal != 0 ? refusal : now.isUncle(u) ? 0 : NO_SUCH;
    }

    private static int firstOtherwise(Ward ward, Sheet sheet, int u) {
        if (sheet == null) {
            return NONE;
        }
        for (int c = 0; c < sheet.size && c < ward.children; c++) {
            if (ward.suits(c, u) != sheet.cells[c]) {
                return c;
            }
        }
        return NONE;
    }

    /** The first UNCLE whom a CHILD would rather have, and who would rather have it. */
    private int firstRather(int c) {
        int has = now.has[c];
        int suited = has == NONE ? 0 : now.suits(c, has);
        for (int u = 0; u < now.uncles; u++) {
            if (u != has && now.suits(c, u) > suited && wouldTake(u, c)) {
                return u;
            }
        }
        return NONE;
    }

    private boolean wouldTake(int u, int c) {
        int room = now.room(u);
        if (now.hired(u) < room) {
            return true;
        }
        if (room == 0) {
            return false;
        }
        int liked = now.likes(c, u);
        for (int d = 0; d < now.children; d++) {
            if (now.has[d] == u && liked > now.likes(d, u)) {
                return true;
            }
        }
        return false;
    }

    private static boolean isEither(int what) {
        return what == 0 || what == 1;
    }

    private static boolean isByte(int b) {
        return b >= 0 && b <= 255;
    }

    private static boolean isOfKind(int kind, int wanted) {
        int k = kind;
        for (int i = 0; i < KINDS && k >= 0 && k < KINDS; i++) {
            if (k == wanted) {
                return true;
            }
            k = ABOVE[k];
        }
        return false;
    }

    private static int within(int value, int least, int most) {
        return Math.max(least, Math.min(most, value));
    }

    private static int digitsAt(int[] row, int which) {
        int digits = 0;
        for (int place = 0; place < PLACES; place++) {
            digits = digits * 10 + row[which * PLACES + place];
        }
        return digits;
    }

    private static void putDigits(int[] row, int which, int digits) {
        int rest = digits;
        for (int place = PLACES - 1; place >= 0; place--) {
            row[which * PLACES + place] = rest % 10;
            rest /= 10;
        }
    }

    /** At least 1, as the second is. */
    private static int commonDivisor(int one, int other) {
        int a = other;
        int b = one;
        for (int i = 0; i < MOST_SEEDS && b != 0; i++) {
            int rest = a % b;
            a = b;
            b = rest;
        }
        return Math.max(1, a);
    }

    /** How much, of a sum that Table.most told: the ROW below it takes less than one off. */
    private static int sumOf(long most) {
        return (int) ((most + (1L << ROW_BITS) - 1) >> ROW_BITS);
    }

    private static int rowOf(long most) {
        return (int) (((long) sumOf(most) << ROW_BITS) - most);
    }

    /** A TEXT: steps that work on a stack of values, part behind part. */
    private static final class Law {
        private final int[] steps = new int[TAPE];
        private final int[] ends = new int[PARTS];
        private int size;

        private void clear() {
            size = 0;
            Arrays.fill(ends, 0);
        }

        private void add(int step) {
            // No token of THE TAPE makes more than one step, so there is always room.
            if (size < TAPE) {
                steps[size] = step;
                size++;
            }
        }

        private void endPart(int part) {
            ends[part] = size;
        }

        private int value(int part, int[] names, int[] stack) {
            int top = 0;
            for (int i = part == 0 ? 0 : ends[part - 1]; i < ends[part]; i++) {
                int step = steps[i];
                if (step < WORKED) {
                    if (top >= STACK) {
                        return 0;
                    }
                    stack[top] = step < NAMED ? step : names[step - NAMED];
                    top++;
                } else if (step >= DO_NOT) {
                    if (top < 1) {
                        return 0;
                    }
                    stack[top - 1] = ofOne(step, stack[top - 1]);
                } else {
                    if (top < 2) {
                        return 0;
                    }
                    top--;
                    stack[top - 1] = ofTwo(step, stack[top - 1], stack[top]);
                }
            }
            return stack[0];
        }

        private static int ofOne(int step, int value) {
            if (step == DO_NEGATE) {
                return -value;
            }
            return value == 0 ? 1 : 0;
        }

        private static int ofTwo(int step, int left, int right) {
            switch (step) {
                case DO_OR: return left != 0 || right != 0 ? 1 : 0;
                case DO_AND: return left != 0 && right != 0 ? 1 : 0;
                case DO_LESS: return left < right ? 1 : 0;
                case DO_SAME: return left == right ? 1 : 0;
                case DO_PLUS: return left + right;
                case DO_MINUS: return left - right;
                default: return left * right;
            }
        }
    }

    /** THE TAPE, and what reads it as a TEXT. */
    private static final class Reader {
        private static final int OPEN = '(', CLOSE = ')', SEMICOLON = ';', PLUS = '+', MINUS = '-';
        private static final int TIMES = '*', LESS = '<', SAME = '=';
        private static final String SIGNS = "();+-*<=";
        /** Keys are told by KEY and their number, so that they stand apart from the signs. */
        private static final int KEY = 256, KEYS = 6, WORDS = 12, OR = 259, AND = 260, NOT = 261;
        private static final int NUMBER = 300, NAME = 301, END = 302, REFUSED = 303;
        private static final int LONGEST_NUMBER = 4, DEEPEST = 5;

        private final int[] tape = new int[TAPE];
        private int size;
        private int next;
        private int token;
        private int place;
        private int value;
        private int fault;
        private Law law;

        private void append(int b) {
            if (size < TAPE) {
                tape[size] = b;
                size++;
            }
        }

        /** The place of the FAULT, or NONE; THE TAPE is empty then. */
        private int read(Law into) {
            law = into;
            law.clear();
            next = 0;
            fault = NONE;
            readToken();
            for (int part = 0; part < PARTS; part++) {
                expect(KEY + part);
                readEither(0);
                expect(SEMICOLON);
                law.endPart(part);
            }
            expect(END);
            size = 0;
            return fault;
        }

        /** Behind a FAULT no token is of any sort that is looked for, so that all ends. */
        private void refuse() {
            if (fault == NONE) {
                fault = place;
            }
            token = REFUSED;
        }

        private void expect(int sort) {
            if (token == sort) {
                readToken();
            } else {
                refuse();
            }
        }

        private void readToken() {
            while (next < size && (tape[next] == ' ' || tape[next] == '\n')) {
                next++;
            }
            place = next;
            if (next >= size) {
                token = END;
            } else if (isLetter(tape[next])) {
                readWord();
            } else if (isDigit(tape[next])) {
                readNumber();
            } else if (SIGNS.indexOf((char) tape[next]) >= 0) {
                token = tape[next];
                next++;
            } else {
                refuse();
            }
        }

        private void readWord() {
            while (next < size && isLetter(tape[next])) {
                next++;
            }
            for (int w = 0; w < WORDS; w++) {
                if (isWord(wordOf(w))) {
                    token = w < KEYS ? KEY + w : NAME;
                    value = w - KEYS;
                    return;
                }
            }
            refuse();
        }

        private boolean isWord(String word) {
            if (word.length() != next - place) {
                return false;
            }
            for (int i = 0; i < word.length(); i++) {
                if (tape[place + i] != word.charAt(i)) {
                    return false;
                }
            }
            return true;
        }

        private static String wordOf(int w) {
            switch (w) {
                case 0: return "suits";
                case 1: return "likes";
                case 2: return "tires";
                case 3: return "or";
                case 4: return "and";
                case 5: return "not";
                case 6: return "mark";
                case 7: return "need";
                case 8: return "which";
                case 9: return "year";
                case 10: return "hired";
                default: return "more";
            }
        }

        private void readNumber() {
            value = 0;
            while (next < size && isDigit(tape[next])) {
                value = value * 10 + tape[next] - '0';
                next++;
            }
            if (next - place > LONGEST_NUMBER) {
                refuse();
            } else {
                token = NUMBER;
            }
        }

        private void readEither(int depth) {
            readBoth(depth);
            for (int i = 0; i < TAPE && token == OR; i++) {
                readToken();
                readBoth(depth);
                law.add(DO_OR);
            }
        }

        private void readBoth(int depth) {
            readNot(depth);
            for (int i = 0; i < TAPE && token == AND; i++) {
                readToken();
                readNot(depth);
                law.add(DO_AND);
            }
        }

        private void readNot(int depth) {
            if (token == NOT && depth < DEEPEST) {
                readToken();
                readNot(depth + 1);
                law.add(DO_NOT);
                return;
            }
            readSum(depth);
            if (token == LESS || token == SAME) {
                int step = token == LESS ? DO_LESS : DO_SAME;
                readToken();
                readSum(depth);
                law.add(step);
            }
        }

        private void readSum(int depth) {
            readTerm(depth);
            for (int i = 0; i < TAPE && (token == PLUS || token == MINUS); i++) {
                int step = token == PLUS ? DO_PLUS : DO_MINUS;
                readToken();
                readTerm(depth);
                law.add(step);
            }
        }

        private void readTerm(int depth) {
            readOne(depth);
            for (int i = 0; i < TAPE && token == TIMES; i++) {
                readToken();
                readOne(depth);
                law.add(DO_TIMES);
            }
        }

        private void readOne(int depth) {
            if (token == NUMBER) {
                law.add(value);
                readToken();
            } else if (token == NAME) {
                law.add(NAMED + value);
                readToken();
            } else if (token == MINUS && depth < DEEPEST) {
                readToken();
                readOne(depth + 1);
                law.add(DO_NEGATE);
            } else if (token == OPEN && depth < DEEPEST) {
                readToken();
                readEither(depth + 1);
                expect(CLOSE);
            } else {
                refuse();
            }
        }

        private static boolean isLetter(int b) {
            return b >= 'a' && b <= 'z';
        }

        private static boolean isDigit(int b) {
            return b >= '0' && b <= '9';
        }
    }

    /** All that AN IMAGE keeps: CHILDREN, UNCLES, YEAR, THE LAW. Who calls sees to it that CHILD and UNCLE are there. */
    private static final class Ward {
        private final Law[] texts;
        private final int[] needs = new int[MOST * PLACES];
        private final int[] has = new int[MOST];
        private final int[] marks = new int[MOST * PLACES];
        private final int[] kind = new int[MOST];
        private final int[] more = new int[MOST];
        private final int[] names = new int[NAMES];
        private final int[] stack = new int[STACK];
        private int children;
        private int uncles;
        private int year;
        private int law;

        private Ward(Law[] texts) {
            this.texts = texts;
        }

        private void become(Ward other) {
            System.arraycopy(other.needs, 0, needs, 0, MOST * PLACES);
            System.arraycopy(other.has, 0, has, 0, MOST);
            System.arraycopy(other.marks, 0, marks, 0, MOST * PLACES);
            System.arraycopy(other.kind, 0, kind, 0, MOST);
            System.arraycopy(other.more, 0, more, 0, MOST);
            children = other.children;
            uncles = other.uncles;
            year = other.year;
            law = other.law;
        }

        private boolean isChild(int c) {
            return c >= 0 && c < children;
        }

        private boolean isUncle(int u) {
            return u >= 0 && u < uncles;
        }

        private int addChild(int digits) {
            if (digits < 0 || digits >= DIGITS_ABOVE) {
                return BAD;
            }
            if (children >= MOST) {
                return FULL;
            }
            putDigits(needs, children, digits);
            has[children] = NONE;
            children++;
            return children - 1;
        }

        private int addUncle(int kindMore, int digits) {
            if (kindMore < 0 || kindMore >= 10 * KINDS || digits < 0 || digits >= DIGITS_ABOVE) {
                return BAD;
            }
            if (uncles >= MOST) {
                return FULL;
            }
            putDigits(marks, uncles, digits);
            kind[uncles] = kindMore / 10;
            more[uncles] = kindMore % 10;
            uncles++;
            return uncles - 1;
        }

        private int appointed() {
            int count = 0;
            for (int c = 0; c < children; c++) {
                count += has[c] == NONE ? 0 : 1;
            }
            return count;
        }

        private int hired(int u) {
            int count = 0;
            for (int c = 0; c < children; c++) {
                count += has[c] == u ? 1 : 0;
            }
            return count;
        }

        private int room(int u) {
            switch (kind[u]) {
                case JOLLY: return 1 + more[u] / 5;
                case DWARF: return 1 + more[u] / 5 + 2;
                case AUNT: return year % 10 == more[u] ? 0 : 1;
                default: return 1;
            }
        }

        private int says(int part, int u, int place, int need) {
            Law text = law < 0 || law >= MOST ? null : texts[law];
            if (text == null) {
                return 0;
            }
            names[MARK] = marks[u * PLACES + place];
            names[NEED] = need;
            names[WHICH] = place;
            names[YEAR] = year;
            names[HIRED] = hired(u);
            names[MORE] = more[u];
            int value = text.value(part, names, stack);
            return part == TIRES ? within(value, 0, 9) : within(value, -99, 99);
        }

        private int suits(int c, int u) {
            int sum = 0;
            for (int place = 0; place < PLACES; place++) {
                sum += suitsAt(c, u, place);
            }
            return sum;
        }

        private int suitsAt(int c, int u, int place) {
            int need = needs[c * PLACES + place];
            int said = says(SUITS, u, place, need);
            switch (kind[u]) {
                case JOLLY: return jollySuits(said, u, place);
                case SAD: return sadSuits(said, need);
                case DWARF: return place == 3 ? 5 : jollySuits(said, u, place);
                case ORPHAN: return sadSuits(said, need) + (marks[u * PLACES + place] == need ? more[u] : 0);
                default: return said;
            }
        }

        private int jollySuits(int said, int u, int place) {
            return place == 0 ? said + 2 * more[u] : said;
        }

        private static int sadSuits(int said, int need) {
            return need > 6 ? said * 2 : said / 2;
        }

        private int likes(int c, int u) {
            int said = 0;
            for (int place = 0; place < PLACES; place++) {
                said += says(LIKES, u, place, needs[c * PLACES + place]);
            }
            int needed = needsOf(c);
            switch (kind[u]) {
                case SAD: return said + needed;
                case ORPHAN: return -(said + needed);
                case AUNT: return needed > 20 ? 0 : said;
                default: return said;
            }
        }

        private int needsOf(int c) {
            int sum = 0;
            for (int place = 0; place < PLACES; place++) {
                sum += needs[c * PLACES + place];
            }
            return sum;
        }

        private int allNeeds() {
            int sum = 0;
            for (int c = 0; c < children; c++) {
                sum += needsOf(c);
            }
            return sum;
        }

        private int allSuited() {
            int sum = 0;
            for (int c = 0; c < children; c++) {
                sum += isUncle(has[c]) ? suits(c, has[c]) : 0;
            }
            return sum;
        }

        private void passYear() {
            for (int c = 0; c < children; c++) {
                int u = has[c];
                if (isUncle(u)) {
                    if (suits(c, u) > 0) {
                        easeNeed(c);
                    }
                    tire(u);
                }
            }
            year++;
        }

        private void easeNeed(int c) {
            int greatest = c * PLACES;
            for (int i = greatest + 1; i < c * PLACES + PLACES; i++) {
                if (needs[i] > needs[greatest]) {
                    greatest = i;
                }
            }
            needs[greatest] = Math.max(0, needs[greatest] - 1);
        }

        private void tire(int u) {
            for (int place = 0; place < PLACES; place++) {
                int i = u * PLACES + place;
                marks[i] = Math.max(0, marks[i] - says(TIRES, u, place, 0));
            }
        }
    }

    /** Who SUITS whom, and who LIKES whom, as all is now; and the ROWS that are thought of by it. */
    private static final class Table {
        private final int[] suits = new int[MOST * MOST];
        private final int[] likes = new int[MOST * MOST];
        private final int[] room = new int[MOST];
        private final int[] row = new int[MOST];
        private final int[] count = new int[MOST];
        private final int[] asked = new int[MOST];
        private final long[] most = new long[1 << MOST];
        private final long[] gains = new long[1 << MOST];
        private int children;
        private int uncles;

        private void readSuits(Ward ward) {
            children = ward.children;
            uncles = ward.uncles;
            for (int u = 0; u < uncles; u++) {
                room[u] = ward.room(u);
                for (int c = 0; c < children; c++) {
                    suits[c * MOST + u] = ward.suits(c, u);
                }
            }
        }

        private void readLikes(Ward ward) {
            for (int u = 0; u < uncles; u++) {
                for (int c = 0; c < children; c++) {
                    likes[c * MOST + u] = ward.likes(c, u);
                }
            }
        }

        private int suitedBy(int[] who) {
            int sum = 0;
            for (int c = 0; c < children; c++) {
                sum += who[c] == NONE ? 0 : suits[c * MOST + who[c]];
            }
            return sum;
        }

        private int rowSuited() {
            return suitedBy(row);
        }

        private int rowDigits() {
            int digits = 0;
            for (int c = 0; c < children; c++) {
                digits = digits * 10 + row[c] + 1;
            }
            return digits;
        }

        private int rowAppointed() {
            int appointed = 0;
            for (int c = 0; c < children; c++) {
                appointed += row[c] == NONE ? 0 : 1;
            }
            return appointed;
        }

        /** The first of the UNCLES who SUIT a CHILD most, less those of these bits; NONE if none is left. */
        private int mostSuiting(int c, int less) {
            int found = NONE;
            for (int u = 0; u < uncles; u++) {
                boolean isLeft = (less >> u & 1) == 0;
                if (isLeft && (found == NONE || suits[c * MOST + u] > suits[c * MOST + found])) {
                    found = u;
                }
            }
            return found;
        }

        /**
         * The most that a ROW without an UNCLE (NONE: with all) brings: the sum above ROW_BITS, less the ROW as digits,
         * so that of like sums the first ROW is the one that brings most.
         */
        private long most(int without) {
            Arrays.fill(most, 0L);
            for (int u = 0; u < uncles; u++) {
                if (u != without) {
                    offer(u);
                }
            }
            return most[(1 << children) - 1];
        }

        /** most, of each set of CHILDREN, is as without the UNCLE ahead of this, and as with him behind it. */
        private void offer(int u) {
            addGains(u);
            for (int set = (1 << children) - 1; set > 0; set--) {
                for (int his = set; his > 0; his = (his - 1) & set) {
                    if (Integer.bitCount(his) <= room[u]) {
                        most[set] = Math.max(most[set], most[set ^ his] + gains[his]);
                    }
                }
            }
        }

        private void addGains(int u) {
            gains[0] = 0L;
            for (int c = 0; c < children; c++) {
                long gain = ((long) suits[c * MOST + u] << ROW_BITS) - (long) (u + 1) * TENS[children - 1 - c];
                int bit = 1 << c;
                for (int set = 0; set < bit; set++) {
                    gains[bit + set] = gains[set] + gain;
                }
            }
        }

        private void settle() {
            Arrays.fill(row, NONE);
            Arrays.fill(asked, 0);
            Arrays.fill(count, 0);
            boolean isAsking = true;
            // No CHILD asks one UNCLE twice.
            for (int asks = 0; asks <= MOST * MOST && isAsking; asks++) {
                isAsking = false;
                for (int c = 0; c < children; c++) {
                    isAsking |= row[c] == NONE && askNext(c);
                }
            }
        }

        /** Whether there was an UNCLE left to ask. */
        private boolean askNext(int c) {
            int u = mostSuiting(c, asked[c]);
            if (u == NONE || suits[c * MOST + u] <= 0) {
                return false;
            }
            asked[c] |= 1 << u;
            row[c] = u;
            count[u]++;
            if (count[u] > room[u]) {
                row[leastLiked(u, c)] = NONE;
                count[u]--;
            }
            return true;
        }

        /** Of those that an UNCLE keeps, one of whom is told. */
        private int leastLiked(int u, int one) {
            int least = one;
            for (int c = 0; c < children; c++) {
                if (row[c] == u) {
                    int more = likes[c * MOST + u] - likes[least * MOST + u];
                    if (more < 0 || more == 0 && c > least) {
                        least = c;
                    }
                }
            }
            return least;
        }

        /** LISTS by a SEED: the ROW. */
        private void draw(int seed) {
            Arrays.fill(row, NONE);
            Arrays.fill(count, 0);
            long lot = seed + 1L;
            for (int c = 0; c < children && uncles > 0; c++) {
                lot = lot * 48271L % 2147483647L;
                int u = (int) (lot % uncles);
                if (count[u] < room[u]) {
                    count[u]++;
                    row[c] = u;
                }
            }
        }
    }

    /** A row of numbers, or missing. */
    private static final class Sheet {
        private static final int MISSING = -1, BYTES = 0, SHORTS = 1, INTS = 2;

        private final int[] cells = new int[LONGEST_SHEET];
        private int sort = MISSING;
        private int size;

        private void become(int newSort, int newSize) {
            sort = newSort;
            size = newSize;
            Arrays.fill(cells, 0);
        }

        private boolean isMissing() {
            return sort == MISSING;
        }

        private boolean hasRun(int from, int n) {
            return n >= 0 && n <= size && from >= 0 && from <= size - n;
        }

        private void write(int i, int v) {
            cells[i] = sort == BYTES ? (byte) v : sort == SHORTS ? (short) v : v;
        }
    }
}
