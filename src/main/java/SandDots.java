/** Figures of dots in sand, their charts, drawings of charts, rules of reading and a book of casts. */
public final class SandDots {
    public static final int NONE = -1000000, BAD = -1000001, STATE = -1000002, FULL = -1000003;

    private static final int FINDINGS = -1000010, FAULTS = -1000100;
    private static final int NO_FINDING = 0, NULL = 1, PLACE = 2, KIND = 3, SIZE = 4, STORE = 5;
    private static final int SHEETS = 8, PLACES = 16, CODES = 65536, MOST_STROKES = 0x7fffffff;

    private final Sheet[] sheets = new Sheet[SHEETS];
    private final Mender mender = new Mender();
    private final Tape tape = new Tape();
    private final RuleReader reader = new RuleReader();
    private final Book book = new Book();
    private final Bodies bodies = new Bodies();
    private RuleSet ruleSet = new RuleSet();
    private RuleSet spareSet = new RuleSet();
    private int code = 0;
    private long marks = Charts.ofCode(0);
    private int latestFault = 0;
    private int latestFinding = NO_FINDING;

    public SandDots() {
        for (int i = 0; i < SHEETS; i++) {
            sheets[i] = new Sheet();
        }
    }

    // ---- sheets

    public int sheet(int sheet, int lane, int n) {
        if (!isSheet(sheet) || !Sheet.isLane(lane) || n > Sheet.MOST_ITEMS) {
            return BAD;
        }
        if (n < 0) {
            return found(SIZE);
        }
        sheets[sheet].begin(lane, n);
        return done(n);
    }

    public int set(int sheet, int i, int v) {
        if (!isSheet(sheet)) {
            return BAD;
        }
        int finding = sheets[sheet].findingOf(i, 1);
        if (finding != NO_FINDING) {
            return found(finding);
        }
        return done(sheets[sheet].put(i, v));
    }

    public int copy(int a, int i, int b, int j, int n) {
        if (!isSheet(a) || !isSheet(b)) {
            return BAD;
        }
        Sheet from = sheets[a];
        Sheet to = sheets[b];
        if (from.isMissing() || to.isMissing()) {
            return found(NULL);
        }
        if (from.lane != to.lane) {
            return found(STORE);
        }
        if (!from.hasItems(i, n) || !to.hasItems(j, n)) {
            return found(PLACE);
        }
        System.arraycopy(from.items, i, to.items, j, n);
        return done(n);
    }

    public int drop(int sheet) {
        if (!isSheet(sheet)) {
            return BAD;
        }
        if (sheets[sheet].isMissing()) {
            return found(NULL);
        }
        int had = sheets[sheet].size;
        sheets[sheet].forget();
        return done(had);
    }

    // ---- charts

    public int cast(int sheet, int i) {
        if (!isSheet(sheet)) {
            return BAD;
        }
        int finding = sheets[sheet].findingOf(i, PLACES);
        if (finding != NO_FINDING) {
            return found(finding);
        }
        if (!sheets[sheet].areWithin(i, PLACES, 0, MOST_STROKES)) {
            return BAD;
        }
        tellChart(sheets[sheet].oddOnes(i));
        return done(code);
    }

    public int chart(int code) {
        if (code < 0 || code >= CODES) {
            return BAD;
        }
        int was = this.code;
        tellChart(code);
        return was;
    }

    public int at(int place) {
        return isPlace(place) ? Charts.figureAt(marks, place) : BAD;
    }

    public int add(int a, int b) {
        return Figures.isFigure(a) && Figures.isFigure(b) ? a ^ b : BAD;
    }

    public int seen(int figure) {
        return Figures.isFigure(figure) ? Charts.timesSeen(marks, figure, 0, PLACES - 1) : BAD;
    }

    public int point() {
        return Charts.endsOfPoint(marks);
    }

    // ---- drawings

    public int drawing(int sheet, int i, int what) {
        if (!isSheet(sheet) || what < 0 || what > 4) {
            return BAD;
        }
        Sheet from = sheets[sheet];
        int finding = from.findingOf(i, PLACES);
        if (finding != NO_FINDING) {
            return found(finding);
        }
        if (!from.areWithin(i, PLACES, Sheet.TORN, Figures.LAST)) {
            return BAD;
        }
        mender.lookAt(from.drawnRows(i), from.untornRows(i));
        return done(mender.answerTo(what));
    }

    // ---- rules

    public int feed(long w, int n) {
        if (n < 1 || n > 8) {
            return BAD;
        }
        if (!tape.hasRoom(n)) {
            return FULL;
        }
        tape.append(w, n);
        return tape.used;
    }

    public int rules() {
        boolean faultless = reader.readInto(spareSet, tape);
        tape.used = 0;
        if (!faultless) {
            latestFault = reader.faultNumber;
            return FAULTS - reader.faultPlace;
        }
        RuleSet old = ruleSet;
        ruleSet = spareSet;
        spareSet = old;
        return ruleSet.size;
    }

    public int fault() {
        return latestFault;
    }

    public int said(int what) {
        if (what != 0 && what != 1) {
            return BAD;
        }
        int rule = ruleSet.firstThatHolds(marks);
        if (rule == NONE) {
            return NONE;
        }
        return what == 0 ? ruleSet.numberSaid(rule) : rule;
    }

    public int holds(int rule) {
        if (!ruleSet.hasRule(rule)) {
            return BAD;
        }
        return ruleSet.isTrueOf(rule, marks) ? 1 : 0;
    }

    // ---- the book

    public int record(int came) {
        if (!Book.isEnd(came)) {
            return BAD;
        }
        if (book.isFull()) {
            return FULL;
        }
        book.write(marks, came);
        return book.size;
    }

    public int worth(int rule, int what) {
        if (!ruleSet.hasRule(rule) || what < 0 || what > 3) {
            return BAD;
        }
        book.holdAgainst(ruleSet, rule);
        return book.answerTo(what);
    }

    public int best() {
        int best = NONE;
        int most = 0;
        for (int rule = 0; rule < ruleSet.size; rule++) {
            book.holdAgainst(ruleSet, rule);
            int worth = book.worthHeld();
            if (best == NONE || worth > most) {
                best = rule;
                most = worth;
            }
        }
        return best;
    }

    // ---- asked

    public int kind(int figure) {
        return Figures.isFigure(figure) ? Figures.toldKind(figure) : BAD;
    }

    public int as(int figure, int kind) {
        if (!Figures.isFigure(figure) || kind < Figures.ANY || kind > Figures.ODD) {
            return BAD;
        }
        if (!Figures.isOfKind(figure, kind)) {
            return found(KIND);
        }
        return done(Figures.dots(figure));
    }

    public int ask(int figure, int what) {
        if (!Figures.isFigure(figure) || what != 0 && what != 1) {
            return BAD;
        }
        bodies.emptyTrace();
        return what == 0 ? bodies.sizeOf(figure) : bodies.markOf(figure);
    }

    public int trace(int i) {
        return bodies.traced(i);
    }

    public int count(int what) {
        switch (what) {
            case 0: return sheetsThere();
            case 1: return ruleSet.size;
            case 2: return book.size;
            case 3: return book.casesKnown();
            case 4: return book.casesYes();
            case 5: return tape.used;
            case 6: return code;
            default: return BAD;
        }
    }

    public int status() {
        return latestFinding;
    }

    private int found(int finding) {
        latestFinding = finding;
        return FINDINGS - finding;
    }

    private int done(int answer) {
        latestFinding = NO_FINDING;
        return answer;
    }

    private void tellChart(int newCode) {
        code = newCode;
        marks = Charts.ofCode(newCode);
    }

    private int sheetsThere() {
        int there = 0;
        for (int i = 0; i < SHEETS; i++) {
            if (!sheets[i].isMissing()) {
                there++;
            }
        }
        return there;
    }

    private static boolean isSheet(int sheet) {
        return sheet >= 0 && sheet < SHEETS;
    }

    private static boolean isPlace(int place) {
        return place >= 0 && place < PLACES;
    }

    /** One sheet; its row is made once, so that a run of many sheets makes nothing new. */
    private static final class Sheet {
        static final int MOST_ITEMS = 60, TORN = -1;
        private static final int MISSING = -1, BYTES = 0, SHORTS = 1, INTS = 2;

        final int[] items = new int[MOST_ITEMS];
        int lane = MISSING;
        int size = 0;

        static boolean isLane(int lane) {
            return lane >= BYTES && lane <= INTS;
        }

        boolean isMissing() {
            return lane == MISSING;
        }

        void begin(int newLane, int n) {
            lane = newLane;
            size = n;
            for (int i = 0; i < MOST_ITEMS; i++) {
                items[i] = 0;
            }
        }

        void forget() {
            lane = MISSING;
            size = 0;
        }

        // "size - n" and not "from + n", which could wrap around.
        boolean hasItems(int from, int n) {
            return n >= 0 && from >= 0 && from <= size - n;
        }

        int findingOf(int from, int n) {
            if (isMissing()) {
                return NULL;
            }
            return hasItems(from, n) ? NO_FINDING : PLACE;
        }

        int put(int i, int v) {
            if (!hasItems(i, 1)) {
                return BAD;
            }
            items[i] = narrowed(v);
            return items[i];
        }

        private int narrowed(int v) {
            if (lane == BYTES) {
                return (byte) v;
            }
            return lane == SHORTS ? (short) v : v;
        }

        boolean areWithin(int from, int n, int least, int most) {
            if (!hasItems(from, n)) {
                return false;
            }
            for (int k = 0; k < n; k++) {
                if (items[from + k] < least || items[from + k] > most) {
                    return false;
                }
            }
            return true;
        }

        // Strokes come mother by mother and row by row, as the bits of a CODE do.
        int oddOnes(int from) {
            int odd = 0;
            if (hasItems(from, PLACES)) {
                for (int k = 0; k < PLACES; k++) {
                    odd |= (items[from + k] & 1) << k;
                }
            }
            return odd;
        }

        /** A drawing as Charts has it, with torn places empty. */
        long drawnRows(int from) {
            long rows = 0;
            if (hasItems(from, PLACES)) {
                for (int k = 0; k < PLACES; k++) {
                    rows = items[from + k] == TORN ? rows : Charts.withFigure(rows, k, items[from + k]);
                }
            }
            return rows;
        }

        long untornRows(int from) {
            long rows = 0;
            if (hasItems(from, PLACES)) {
                for (int k = 0; k < PLACES; k++) {
                    rows = items[from + k] == TORN ? rows : Charts.withFigure(rows, k, Figures.LAST);
                }
            }
            return rows;
        }
    }

    /** Figures by their numbers, and their kinds. */
    private static final class Figures {
        static final int LAST = 15;
        static final int ANY = 0, EVEN = 1, FAST = 2, ODD = 3;

        static boolean isFigure(int figure) {
            return figure >= 0 && figure <= LAST;
        }

        static int dots(int figure) {
            return 8 - Integer.bitCount(figure);
        }

        static boolean isEven(int figure) {
            return Integer.bitCount(figure) % 2 == 0;
        }

        static int toldKind(int figure) {
            if (!isEven(figure)) {
                return ODD;
            }
            return row(figure, 0) == row(figure, 3) && row(figure, 1) == row(figure, 2) ? FAST : EVEN;
        }

        static boolean isOfKind(int figure, int kind) {
            int told = toldKind(figure);
            return kind == ANY || kind == told || kind == EVEN && told == FAST;
        }

        private static int row(int figure, int row) {
            return figure >> row & 1;
        }
    }

    /** Charts, each one long: the figure at a place is the four bits from 4 times the place on. */
    private static final class Charts {
        private static final int DAUGHTERS = 4, NIECES = 8, JUDGE = 14, END = 15;

        static long ofCode(int code) {
            long chart = code & CODES - 1;
            for (int daughter = 0; daughter < 4; daughter++) {
                chart = withFigure(chart, DAUGHTERS + daughter, daughterOf(code, daughter));
            }
            for (int place = NIECES; place <= JUDGE; place++) {
                int up = firstAbove(place);
                chart = withFigure(chart, place, figureAt(chart, up) ^ figureAt(chart, up + 1));
            }
            return withFigure(chart, END, figureAt(chart, JUDGE) ^ figureAt(chart, 0));
        }

        private static int daughterOf(int code, int daughter) {
            int figure = 0;
            for (int mother = 0; mother < 4; mother++) {
                figure |= (code >> 4 * mother + daughter & 1) << mother;
            }
            return figure;
        }

        static int figureAt(long chart, int place) {
            return (int) (chart >>> 4 * place) & Figures.LAST;
        }

        /** For a place that is empty so far. */
        static long withFigure(long chart, int place, int figure) {
            return chart | (long) figure << 4 * place;
        }

        // Places 8 to 14 are added of two neighbours each: 0 and 1, 2 and 3, up to 12 and 13.
        private static int firstAbove(int place) {
            return 2 * (place - NIECES);
        }

        static int timesSeen(long chart, int figure, int first, int last) {
            int times = 0;
            for (int place = first; place <= last; place++) {
                if (figureAt(chart, place) == figure) {
                    times++;
                }
            }
            return times;
        }

        // What a place is added of has lower numbers, so one way down the numbers meets all.
        static int endsOfPoint(long chart) {
            int reached = 1 << JUDGE;
            int ends = 0;
            for (int place = JUDGE; place >= 0; place--) {
                if ((reached >> place & 1) == 0) {
                    continue;
                }
                int further = wayUp(chart, place);
                reached |= further;
                if (further == 0) {
                    ends |= 1 << place;
                }
            }
            return ends;
        }

        private static int wayUp(long chart, int place) {
            int further = 0;
            if (place >= NIECES) {
                for (int up = firstAbove(place); up <= firstAbove(place) + 1; up++) {
                    if (((figureAt(chart, up) ^ figureAt(chart, place)) & 1) == 0) {
                        further |= 1 << up;
                    }
                }
            }
            return further;
        }
    }

    /** Holds a drawing against all charts. */
    private static final class Mender {
        private static final int HALVES = 256, HALF_BITS = 8;

        // A chart is the charts of its code's single bits, added: so each is one with
        // only mothers 0 and 1 and one with only mothers 2 and 3, added.
        private final long[] lower = new long[HALVES];
        private final long[] upper = new long[HALVES];
        private final long upperAlone;

        private boolean looked = false;
        private long drawn = 0;
        private long untorn = 0;
        private int fits = 0;
        private int strokes = 0;
        private int mended = 0;
        private int firstWrong = 0;

        Mender() {
            fillWithCharts(lower, 0);
            fillWithCharts(upper, HALF_BITS);
            long touched = 0;
            for (int half = 0; half < HALVES; half++) {
                touched |= lower[half];
            }
            upperAlone = ~touched;
        }

        private static void fillWithCharts(long[] charts, int shift) {
            for (int half = 1; half < HALVES; half++) {
                int lowest = half & -half;
                charts[half] = half == lowest ? Charts.ofCode(half << shift) : charts[lowest] ^ charts[half - lowest];
            }
        }

        // All five answers come of one look, and are mostly asked in turn.
        void lookAt(long newDrawn, long newUntorn) {
            if (looked && drawn == newDrawn && untorn == newUntorn) {
                return;
            }
            looked = true;
            drawn = newDrawn;
            untorn = newUntorn;
            fits = 0;
            strokes = 4 * PLACES + 1;
            mended = 0;
            firstWrong = 0;
            for (int half = 0; half < HALVES; half++) {
                long wrong = (upper[half] ^ drawn) & untorn;
                if (mayTellMore(wrong & upperAlone)) {
                    lookThrough(half << HALF_BITS, wrong);
                }
            }
        }

        // Rows that mothers 2 and 3 alone have wrong stay so in all 256 charts with these two.
        private boolean mayTellMore(long surelyWrong) {
            return surelyWrong == 0 || Long.bitCount(surelyWrong) < strokes || agreesUpTo(firstWrong, surelyWrong);
        }

        private void lookThrough(int firstCode, long wrongOfUpper) {
            for (int half = 0; half < HALVES; half++) {
                long wrong = wrongOfUpper ^ lower[half] & untorn;
                int rows = Long.bitCount(wrong);
                if (rows < strokes) {
                    strokes = rows;
                    mended = firstCode + half;
                }
                if (rows == 0) {
                    fits++;
                }
                while (firstWrong < PLACES && agreesUpTo(firstWrong, wrong)) {
                    firstWrong++;
                }
            }
        }

        private static boolean agreesUpTo(int place, long wrong) {
            return place < PLACES && (wrong & -1L >>> 4 * (PLACES - 1 - place)) == 0;
        }

        int answerTo(int what) {
            switch (what) {
                case 0: return fits;
                case 1: return fits > 0 ? mended : NONE;
                case 2: return strokes;
                case 3: return mended;
                case 4: return firstWrong < PLACES ? firstWrong : NONE;
                default: return BAD;
            }
        }
    }

    /** The bytes of a text of rules. */
    private static final class Tape {
        static final int MOST_BYTES = 400;

        private final int[] bytes = new int[MOST_BYTES];
        int used = 0;

        boolean hasRoom(int n) {
            return n <= MOST_BYTES - used;
        }

        void append(long w, int n) {
            for (int k = n - 1; k >= 0 && used < MOST_BYTES; k--) {
                bytes[used] = (int) (w >>> 8 * k) & 255;
                used++;
            }
        }

        int byteAt(int i) {
            return i >= 0 && i < used ? bytes[i] : 0;
        }
    }

    /** The tape cut into tokens, the end being the last of them. */
    private static final class Tokens {
        static final int END = 0, NUMBER = 1, SEMICOLON = 2, NO_TOKEN = 3;
        // The kind of a name is its letters, so that none of these is below 'a'.
        static final int IF = 'i' << 8 | 'f', AND = 'a' << 16 | 'n' << 8 | 'd', SAY = 's' << 16 | 'a' << 8 | 'y';
        static final int FIG = 'f' << 16 | 'i' << 8 | 'g', AT = 'a' << 8 | 't';
        static final int SAME = 's' << 24 | 'a' << 16 | 'm' << 8 | 'e', PASS = 'p' << 24 | 'a' << 16 | 's' << 8 | 's';
        static final int EVEN = 'e' << 24 | 'v' << 16 | 'e' << 8 | 'n';

        private static final int BLANK = 0, LETTER = 1, DIGIT = 2, SIGN = 3, OTHER = 4;
        private static final int MOST_TOKENS = Tape.MOST_BYTES + 1, MOST_FIGURES = 4;
        // The longest word of the grammar; a longer name can stand nowhere, whether it is one or not.
        private static final int MOST_LETTERS = 4;

        private final int[] starts = new int[MOST_TOKENS];
        private final int[] lengths = new int[MOST_TOKENS];
        private final int[] sorts = new int[MOST_TOKENS];
        private final int[] kinds = new int[MOST_TOKENS];
        private final int[] values = new int[MOST_TOKENS];
        private int size = 0;
        private int end = 0;

        void cut(Tape tape) {
            size = 0;
            end = tape.used;
            int before = BLANK;
            for (int i = 0; i < end; i++) {
                int sort = sortOf(tape.byteAt(i));
                if (sort != BLANK) {
                    place(i, sort, sort == before && (sort == LETTER || sort == DIGIT));
                }
                before = sort;
            }
            for (int token = 0; token < size; token++) {
                name(token, tape);
            }
        }

        private void place(int i, int sort, boolean goesOn) {
            if (goesOn && size > 0) {
                lengths[size - 1]++;
            } else if (size < MOST_TOKENS) {
                starts[size] = i;
                lengths[size] = 1;
                sorts[size] = sort;
                size++;
            }
        }

        private void name(int token, Tape tape) {
            values[token] = 0;
            if (sorts[token] == LETTER && lengths[token] <= MOST_LETTERS) {
                kinds[token] = joined(token, tape, 256, 0);
            } else if (sorts[token] == DIGIT && lengths[token] <= MOST_FIGURES) {
                kinds[token] = NUMBER;
                values[token] = joined(token, tape, 10, '0');
            } else {
                kinds[token] = sorts[token] == SIGN ? SEMICOLON : NO_TOKEN;
            }
        }

        private int joined(int token, Tape tape, int base, int zero) {
            int sum = 0;
            for (int k = 0; k < lengths[token]; k++) {
                sum = sum * base + tape.byteAt(starts[token] + k) - zero;
            }
            return sum;
        }

        private static int sortOf(int b) {
            if (b == ' ' || b == '\n') {
                return BLANK;
            }
            if (b >= 'a' && b <= 'z') {
                return LETTER;
            }
            if (b >= '0' && b <= '9') {
                return DIGIT;
            }
            return b == ';' ? SIGN : OTHER;
        }

        int kindOf(int token) {
            return token >= 0 && token < size ? kinds[token] : END;
        }

        int valueOf(int token) {
            return token >= 0 && token < size ? values[token] : 0;
        }

        int startOf(int token) {
            return token >= 0 && token < size ? starts[token] : end;
        }
    }

    /** Reads a text of rules, up to its first fault. */
    private static final class RuleReader {
        private static final int CANNOT_STAND = 1, OUT_OF_RANGE = 2, TOO_MANY = 3;

        private final Tokens tokens = new Tokens();
        private int next = 0;
        private int number = 0;
        int faultNumber = 0;
        int faultPlace = 0;

        boolean readInto(RuleSet into, Tape tape) {
            tokens.cut(tape);
            next = 0;
            into.size = 0;
            for (int rule = 0; rule <= RuleSet.MOST_RULES; rule++) {
                if (tokens.kindOf(next) == Tokens.END) {
                    return true;
                }
                if (!readRule(into)) {
                    return false;
                }
            }
            return true;
        }

        private boolean readRule(RuleSet into) {
            if (tokens.kindOf(next) == Tokens.IF && into.isFull()) {
                return faultHere(TOO_MANY);
            }
            if (!take(Tokens.IF)) {
                return false;
            }
            into.beginRule();
            if (!readTest(into)) {
                return false;
            }
            for (int test = 1; test <= RuleSet.MOST_TESTS && tokens.kindOf(next) == Tokens.AND; test++) {
                if (test == RuleSet.MOST_TESTS) {
                    return faultHere(TOO_MANY);
                }
                if (!take(Tokens.AND) || !readTest(into)) {
                    return false;
                }
            }
            if (!take(Tokens.SAY) || !takeNumber(0, RuleSet.LAST_SAID) || !take(Tokens.SEMICOLON)) {
                return false;
            }
            into.endRule(number);
            return true;
        }

        private boolean readTest(RuleSet into) {
            int word = tokens.kindOf(next);
            if (word != Tokens.FIG && word != Tokens.SAME && word != Tokens.PASS && word != Tokens.EVEN) {
                return faultHere(CANNOT_STAND);
            }
            boolean passes = word == Tokens.PASS;
            if (!take(word) || !takeNumber(passes ? 1 : 0, passes ? RuleSet.LAST_PASS : PLACES - 1)) {
                return false;
            }
            int first = number;
            if (word == Tokens.FIG && !take(Tokens.AT)) {
                return false;
            }
            boolean hasTwo = word == Tokens.FIG || word == Tokens.SAME;
            if (hasTwo && !takeNumber(0, PLACES - 1)) {
                return false;
            }
            into.addTest(word, first, number);
            return true;
        }

        private boolean take(int kind) {
            if (tokens.kindOf(next) != kind) {
                return faultHere(CANNOT_STAND);
            }
            next++;
            return true;
        }

        private boolean takeNumber(int least, int most) {
            if (tokens.kindOf(next) != Tokens.NUMBER) {
                return faultHere(CANNOT_STAND);
            }
            number = tokens.valueOf(next);
            if (number < least || number > most) {
                return faultHere(OUT_OF_RANGE);
            }
            next++;
            return true;
        }

        private boolean faultHere(int faultFound) {
            faultNumber = faultFound;
            faultPlace = tokens.startOf(next);
            return false;
        }
    }

    /** Rules as they were read: the tests of rule r stand from r times MOST_TESTS on. */
    private static final class RuleSet {
        static final int MOST_RULES = 15, MOST_TESTS = 4, LAST_PASS = 11, LAST_SAID = 9999;

        private final int[] words = new int[MOST_RULES * MOST_TESTS];
        private final int[] firsts = new int[MOST_RULES * MOST_TESTS];
        private final int[] seconds = new int[MOST_RULES * MOST_TESTS];
        private final int[] tests = new int[MOST_RULES];
        private final int[] numbers = new int[MOST_RULES];
        int size = 0;

        boolean isFull() {
            return size >= MOST_RULES;
        }

        void beginRule() {
            if (!isFull()) {
                tests[size] = 0;
            }
        }

        void addTest(int word, int first, int second) {
            if (!isFull() && tests[size] < MOST_TESTS) {
                int slot = size * MOST_TESTS + tests[size];
                words[slot] = word;
                firsts[slot] = first;
                seconds[slot] = second;
                tests[size]++;
            }
        }

        void endRule(int number) {
            if (!isFull()) {
                numbers[size] = number;
                size++;
            }
        }

        boolean hasRule(int rule) {
            return rule >= 0 && rule < size;
        }

        int numberSaid(int rule) {
            return hasRule(rule) ? numbers[rule] : NONE;
        }

        int firstThatHolds(long chart) {
            for (int rule = 0; rule < size; rule++) {
                if (isTrueOf(rule, chart)) {
                    return rule;
                }
            }
            return NONE;
        }

        boolean isTrueOf(int rule, long chart) {
            if (!hasRule(rule)) {
                return false;
            }
            for (int test = 0; test < tests[rule]; test++) {
                int slot = rule * MOST_TESTS + test;
                if (!testIsTrue(words[slot], firsts[slot], seconds[slot], chart)) {
                    return false;
                }
            }
            return true;
        }

        private static boolean testIsTrue(int word, int first, int second, long chart) {
            switch (word) {
                case Tokens.FIG: return Charts.figureAt(chart, second) == first;
                case Tokens.SAME: return Charts.figureAt(chart, first) == Charts.figureAt(chart, second);
                case Tokens.PASS: return Charts.timesSeen(chart, Charts.figureAt(chart, 0), 1, LAST_PASS) >= first;
                case Tokens.EVEN: return Figures.isEven(Charts.figureAt(chart, first));
                default: return false;
            }
        }
    }

    /** Cases, and how a rule does in them. */
    private static final class Book {
        private static final int MOST_CASES = 100, NO = 0, YES = 1, UNKNOWN = 2;

        private final long[] charts = new long[MOST_CASES];
        private final int[] ends = new int[MOST_CASES];
        private final int[] all = new int[UNKNOWN + 1];
        private final int[] held = new int[UNKNOWN + 1];
        int size = 0;

        static boolean isEnd(int came) {
            return came >= NO && came <= UNKNOWN;
        }

        boolean isFull() {
            return size >= MOST_CASES;
        }

        void write(long chart, int came) {
            if (!isFull() && isEnd(came)) {
                charts[size] = chart;
                ends[size] = came;
                all[came]++;
                size++;
            }
        }

        void holdAgainst(RuleSet ruleSet, int rule) {
            for (int came = NO; came <= UNKNOWN; came++) {
                held[came] = 0;
            }
            for (int i = 0; i < size; i++) {
                if (isEnd(ends[i]) && ruleSet.isTrueOf(rule, charts[i])) {
                    held[ends[i]]++;
                }
            }
        }

        int answerTo(int what) {
            switch (what) {
                case 0: return held[NO] + held[YES] + held[UNKNOWN];
                case 1: return held[YES];
                case 2: return held[NO];
                case 3: return worthHeld();
                default: return BAD;
            }
        }

        int worthHeld() {
            return held[YES] * casesKnown() - (held[YES] + held[NO]) * casesYes();
        }

        int casesKnown() {
            return all[NO] + all[YES];
        }

        int casesYes() {
            return all[YES];
        }
    }

    /** What figures answer when they are asked, and which bodies began for it. */
    private static final class Bodies {
        private static final int MOST_TRACED = 16;

        private final int[] begun = new int[MOST_TRACED];
        private int traced = 0;

        void emptyTrace() {
            traced = 0;
        }

        int traced(int i) {
            return i >= 0 && i < traced ? begun[i] : NONE;
        }

        int sizeOf(int figure) {
            switch (Figures.toldKind(figure)) {
                case Figures.FAST: return fastSize(figure);
                case Figures.EVEN: return evenSize(figure);
                default: return oddSize(figure);
            }
        }

        // No body is told for even ones that are not fast, so theirs is the one that is lent.
        int markOf(int figure) {
            switch (Figures.toldKind(figure)) {
                case Figures.FAST: return fastMark(figure);
                case Figures.EVEN: return lentMark(figure);
                default: return oddMark(figure);
            }
        }

        private int lentSize(int figure) {
            begin(10);
            return Figures.dots(figure);
        }

        private int evenSize(int figure) {
            begin(11);
            return lentSize(figure) + figure;
        }

        // A fast one that is asked its mark anew answers with its fast mark.
        private int fastSize(int figure) {
            begin(12);
            return evenSize(figure) + fastMark(figure);
        }

        private int oddSize(int figure) {
            begin(13);
            return 2 * lentSize(figure);
        }

        private int lentMark(int figure) {
            begin(20);
            return figure;
        }

        private int fastMark(int figure) {
            begin(21);
            return lentMark(figure) + 100;
        }

        // An odd one that is asked its size anew answers with its odd size.
        private int oddMark(int figure) {
            begin(22);
            return lentMark(figure) + oddSize(figure);
        }

        private void begin(int body) {
            if (traced < MOST_TRACED) {
                begun[traced] = body;
                traced++;
            }
        }
    }
}
