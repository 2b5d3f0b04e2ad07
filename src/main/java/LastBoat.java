/** A store on a beach before the last boat goes. DOC.md numbers what each call promises. */
public final class LastBoat {
    public static final int NONE = -1;
    public static final int RANGE = -2;
    public static final int FULL = -3;
    public static final int STATE = -4;

    // Sums may be -1 or -2 themselves, so that what can't be needs a number far from all of them.
    private static final long FAR_RANGE = -9000000000000000000L;
    private static final int FAR_NONE = -1000000;

    private static final int TAPE_ROOM = 900;
    private static final int ROW_BASE = 48;
    private static final int MOST_ORDER = 40;
    private static final int MOST_PAIRED = 20;
    private static final int MOST_SLEDGE = 20;
    private static final int MOST_PRICE = 99;
    private static final int MOST_ODDS = 999;
    private static final int MOST_BOUND = 9999;
    private static final int MOST_SEEN = 6;
    private static final int TEN = 10;

    private static final int WINTER_ROOM = 4;
    private static final int THING_ROOM = 4;
    private static final int FAMILY_ROOM = 6;
    private static final int SIGN_KINDS = 3;
    private static final int WANT_KINDS = 4;
    private static final int WANT_WIDTH = 5;
    private static final int MOST_WEEKS = 5;
    private static final int CASE_ROOM = 99;
    private static final int SLOT_ROOM = 3;

    private static final int FREE = 0;
    private static final int KEEP = 1;
    private static final int DEAR = 2;

    private final byte[] tape = new byte[TAPE_ROOM];
    private int tapeSize = 0;
    private Post current = new Post();
    private Post draft = new Post();
    private final Reader reader = new Reader();
    private final Outlook outlook = new Outlook();
    private final Pair pair = new Pair();
    private final Loading loading = new Loading();
    private final long[] part = new long[WINTER_ROOM];
    private final Run run = new Run();
    private final Run[] slots = new Run[SLOT_ROOM];

    public LastBoat() {
        for (int slot = 0; slot < SLOT_ROOM; slot++) {
            slots[slot] = new Run();
        }
    }

    public int feed(int a, int b, int c, int d, int e) {
        if (tapeSize > TAPE_ROOM - 20) {
            return FULL;
        }
        putBytes(a);
        putBytes(b);
        putBytes(c);
        putBytes(d);
        putBytes(e);
        return tapeSize;
    }

    private void putBytes(int four) {
        for (int shift = 24; shift >= 0; shift -= 8) {
            tape[tapeSize] = (byte) (four >>> shift);
            tapeSize++;
        }
    }

    public int end(int n) {
        if (n < 0 || n > tapeSize) {
            return NONE;
        }
        tapeSize = n;
        return n;
    }

    private int emptyTape() {
        int size = tapeSize;
        tapeSize = 0;
        return size;
    }

    // ---- the post

    public int post() {
        int size = emptyTape();
        draft.clear();
        if (!reader.reads(tape, size, draft)) {
            return NONE;
        }
        Post old = current;
        current = draft;
        draft = old;
        forgetRuns();
        loading.isTold = false;
        return current.clauses;
    }

    private void forgetRuns() {
        run.isOn = false;
        for (int slot = 0; slot < SLOT_ROOM; slot++) {
            slots[slot].isOn = false;
        }
    }

    public int fault(int what) {
        if (what == 0) {
            return reader.faultKind;
        }
        return what == 1 ? reader.faultPlace : NONE;
    }

    public int told(int what) {
        switch (what) {
            case 0:
                return current.weeks;
            case 1:
                return current.cases;
            case 2:
                return current.winters;
            case 3:
                return current.things;
            case 4:
                return current.families;
            default:
                return toldByNumber(what);
        }
    }

    private int toldByNumber(int what) {
        if (what < 10 || what >= 90) {
            return NONE;
        }
        int number = what % 10;
        if (what < 20) {
            return hasWinter(number) ? (int) current.weight[number] : NONE;
        }
        return hasThing(number) ? toldOfThing(current.thing[number], what / 10) : NONE;
    }

    private static int toldOfThing(Thing thing, int row) {
        switch (row) {
            case 2:
                return thing.room;
            case 3:
                return thing.cost;
            case 4:
                return thing.pay;
            case 5:
                return thing.lack;
            case 6:
                return thing.left;
            case 7:
                return thing.spoil;
            case 8:
                return thing.helper;
            default:
                return NONE;
        }
    }

    private boolean hasThing(int thing) {
        return thing >= 0 && thing < current.things;
    }

    private boolean hasWinter(int winter) {
        return winter >= 0 && winter < current.winters;
    }

    private boolean isAnyWinter(int winter) {
        return winter == NONE && current.winters > 0;
    }

    private static boolean isOrder(int q) {
        return q >= 0 && q <= MOST_ORDER;
    }

    public int wants(int thing, int winter, int n) {
        if (!hasThing(thing) || !hasWinter(winter) || n < 0 || n >= WANT_WIDTH) {
            return RANGE;
        }
        return current.thing[thing].want[winter][n];
    }

    public int signs(int winter, int sign) {
        if (!hasWinter(winter) || sign < 0 || sign >= SIGN_KINDS) {
            return RANGE;
        }
        return current.sign[winter][sign];
    }

    public int rule(int thing, int kind, int k) {
        if (!hasThing(thing) || kind < FREE || kind > DEAR || !isOrder(k)) {
            return RANGE;
        }
        current.thing[thing].setRule(kind, k);
        return 1;
    }

    // ---- one thing

    public long means(int thing, int q, int winter, int what) {
        if (!isOutlook(thing, q, winter) || what < 0 || what > 4) {
            return FAR_RANGE;
        }
        outlook.valueCounts(what);
        return valueAt(current.thing[thing], q, winter);
    }

    public long score(int thing, int q, int winter) {
        if (!isOutlook(thing, q, winter)) {
            return FAR_RANGE;
        }
        Thing ordered = current.thing[thing];
        outlook.valueMoney(ordered);
        return valueAt(ordered, q, winter) - ordered.cost * q * waysIn(winter);
    }

    public long safe(int thing, int q, int winter, boolean isLower) {
        if (!isOutlook(thing, q, winter)) {
            return RANGE;
        }
        outlook.valueSafety();
        long ways = valueAt(current.thing[thing], q, winter);
        return leastNumber(ways, waysIn(winter), isLower);
    }

    private boolean isOutlook(int thing, int q, int winter) {
        return hasThing(thing) && isOrder(q) && (hasWinter(winter) || isAnyWinter(winter));
    }

    private long valueAt(Thing thing, int q, int winter) {
        if (winter == NONE) {
            outlook.passAny(current, thing, current.weight, current.weeks, q);
            return outlook.any[q];
        }
        outlook.passWinter(thing, winter, current.weeks, q);
        return outlook.value[q];
    }

    private long waysIn(int winter) {
        return tenTo(winter == NONE ? current.weeks + 1 : current.weeks);
    }

    public int one(int thing) {
        if (!hasThing(thing)) {
            return RANGE;
        }
        if (current.winters == 0) {
            return STATE;
        }
        outlook.scoreRow(current, current.thing[thing], current.weight, MOST_ORDER);
        return outlook.bestOrder();
    }

    public int keeps(int thing, int q) {
        if (!hasThing(thing) || !isOrder(q)) {
            return RANGE;
        }
        if (current.winters == 0) {
            return STATE;
        }
        Thing kept = current.thing[thing];
        int kind = kept.ruleKind;
        int limit = kept.ruleLimit;
        int best = 0;
        long most = 0;
        // To keep more than was ever ordered is to keep all of it: none above q can be better.
        for (int k = 0; k <= q; k++) {
            kept.setRule(KEEP, k);
            outlook.scoreRow(current, kept, current.weight, q);
            if (k == 0 || outlook.any[q] > most) {
                best = k;
                most = outlook.any[q];
            }
        }
        kept.setRule(kind, limit);
        return best;
    }

    public int sure(int thing, int n) {
        if (!hasThing(thing) || n < 1 || n > MOST_ODDS) {
            return RANGE;
        }
        if (current.winters == 0) {
            return STATE;
        }
        outlook.valueSafety();
        outlook.passAny(current, current.thing[thing], current.weight, current.weeks, MOST_ORDER);
        long ways = waysIn(NONE);
        for (int q = 0; q <= MOST_ORDER; q++) {
            if ((ways - outlook.any[q]) * n <= ways) {
                return q;
            }
        }
        return NONE;
    }

    public long worth(int thing, int week, int stock) {
        if (!hasThing(thing) || !isWeek(week) || !isOrder(stock) || current.winters == 0) {
            return FAR_RANGE;
        }
        Thing stored = current.thing[thing];
        outlook.valueMoney(stored);
        outlook.passAny(current, stored, current.weight, current.weeks - week, stock + 1);
        return outlook.any[stock + 1] - outlook.any[stock];
    }

    private boolean isWeek(int week) {
        return week >= 0 && week < current.weeks;
    }

    // ---- all things

    public long list() {
        if (current.winters == 0) {
            return FAR_RANGE;
        }
        for (int t = 0; t < current.things; t++) {
            outlook.scoreRow(current, current.thing[t], current.weight, MOST_ORDER);
            System.arraycopy(outlook.any, 0, loading.score[t], 0, MOST_ORDER + 1);
        }
        return loading.choose(current);
    }

    public int listed(int thing) {
        return loading.isTold && hasThing(thing) ? loading.chosen[thing] : NONE;
    }

    public int next() {
        int size = emptyTape();
        if (current.winters == 0) {
            return STATE;
        }
        if (!isOrderRow(size)) {
            return NONE;
        }
        int best = NONE;
        long growth = 0;
        long room = 1;
        for (int t = 0; t < size; t++) {
            Thing thing = current.thing[t];
            int q = tape[t] - ROW_BASE;
            if (q < MOST_ORDER) {
                outlook.scoreRow(current, thing, current.weight, q + 1);
                long grows = outlook.any[q + 1] - outlook.any[q];
                if (grows * room > growth * thing.room) {
                    best = t;
                    growth = grows;
                    room = thing.room;
                }
            }
        }
        return best;
    }

    private boolean isOrderRow(int size) {
        if (size != current.things) {
            return false;
        }
        for (int t = 0; t < size; t++) {
            if (!isOrder(tape[t] - ROW_BASE)) {
                return false;
            }
        }
        return true;
    }

    public long instead(int thing, int q, int r, int what) {
        if (!isPaired(thing, q, r) || what < 0 || what > 1) {
            return FAR_RANGE;
        }
        Thing helped = current.thing[thing];
        Thing helper = current.thing[helped.helper];
        long together = pair.together(current, helped, helper, q, r);
        if (what == 0) {
            return together;
        }
        outlook.scoreRow(current, helped, current.weight, q);
        long apart = outlook.any[q];
        outlook.scoreRow(current, helper, current.weight, r);
        apart += outlook.any[r];
        return together - apart * tenTo(current.weeks);
    }

    private boolean isPaired(int thing, int q, int r) {
        return hasThing(thing) && hasThing(current.thing[thing].helper) && current.winters > 0
            && q >= 0 && q <= MOST_PAIRED && r >= 0 && r <= MOST_PAIRED;
    }

    // ---- thinking ahead

    public long think(int winter, boolean isLower) {
        int size = emptyTape();
        if (!hasWinter(winter)) {
            return RANGE;
        }
        long all = weighBySigns(size);
        return all == 0 ? NONE : leastNumber(part[winter], all, isLower);
    }

    public int after(int thing) {
        int size = emptyTape();
        if (!hasThing(thing)) {
            return RANGE;
        }
        if (weighBySigns(size) == 0) {
            return NONE;
        }
        outlook.scoreRow(current, current.thing[thing], part, MOST_ORDER);
        return outlook.bestOrder();
    }

    /** Each winter's part, unreduced; their sum, 0 where the tape is no row of signs or none shows them. */
    private long weighBySigns(int size) {
        if (!isSignRow(size)) {
            return 0;
        }
        long all = 0;
        for (int w = 0; w < current.winters; w++) {
            part[w] = current.weight[w];
            for (int i = 0; i < size; i++) {
                part[w] *= current.sign[w][tape[i] - ROW_BASE];
            }
            all += part[w];
        }
        return all;
    }

    private boolean isSignRow(int size) {
        if (size > MOST_SEEN) {
            return false;
        }
        for (int i = 0; i < size; i++) {
            int sign = tape[i] - ROW_BASE;
            if (sign < 0 || sign >= SIGN_KINDS) {
                return false;
            }
        }
        return true;
    }

    public long sledge(int thing, int q, int f, int s, int m, int c) {
        if (!isSledge(thing, q, s, m, c) || !isWeek(f) || current.winters == 0) {
            return FAR_RANGE;
        }
        outlook.setSledge(f, s, m, c);
        return outlook.sledgeScore(current, current.thing[thing], q);
    }

    private boolean isSledge(int thing, int q, int s, int m, int c) {
        return hasThing(thing) && isOrder(q) && isOrder(s)
            && m >= 1 && m <= MOST_SLEDGE && c >= 0 && c <= MOST_PRICE;
    }

    public int when(int thing, int q, int s, int m, int c) {
        if (!isSledge(thing, q, s, m, c)) {
            return RANGE;
        }
        if (current.winters == 0) {
            return STATE;
        }
        int best = 0;
        long most = 0;
        for (int f = 0; f < current.weeks; f++) {
            outlook.setSledge(f, s, m, c);
            long score = outlook.sledgeScore(current, current.thing[thing], q);
            if (f == 0 || score > most) {
                best = f;
                most = score;
            }
        }
        return best;
    }

    public long second(int thing, int q, int b) {
        if (!hasThing(thing) || !isOrder(q) || b < 0 || b > TEN || current.winters == 0) {
            return FAR_RANGE;
        }
        outlook.secondRow(current, current.thing[thing], b, q);
        return outlook.any[q];
    }

    public int forTwo(int thing, int b) {
        if (!hasThing(thing) || b < 0 || b > TEN) {
            return RANGE;
        }
        if (current.winters == 0) {
            return STATE;
        }
        outlook.secondRow(current, current.thing[thing], b, MOST_ORDER);
        return outlook.bestOrder();
    }

    public int trust(int bound) {
        if (bound < 0 || bound > MOST_BOUND) {
            return RANGE;
        }
        int best = 0;
        int most = 0;
        for (int set = 1; set < 1 << current.families; set++) {
            if (current.owedBy(set) <= bound && current.gainOf(set) > most) {
                best = set;
                most = current.gainOf(set);
            }
        }
        return best;
    }

    // ---- a winter run

    public int begin(int seed) {
        int size = emptyTape();
        if (seed < 0) {
            return RANGE;
        }
        if (current.winters == 0) {
            return STATE;
        }
        if (!isOrderRow(size)) {
            return NONE;
        }
        for (int t = 0; t < size; t++) {
            run.order(t, tape[t] - ROW_BASE);
        }
        run.start(current, seed);
        return run.winter;
    }

    public int go(int weeks) {
        if (weeks < 0 || weeks > MOST_WEEKS) {
            return RANGE;
        }
        if (!run.isOn) {
            return STATE;
        }
        if (weeks > current.weeks - run.week) {
            return RANGE;
        }
        for (int i = 0; i < weeks; i++) {
            run.passWeek(current);
        }
        return run.week;
    }

    public int stock(int thing, int what) {
        if (!hasThing(thing) || what < 0 || what >= Run.ROWS_TOLD) {
            return RANGE;
        }
        return run.isOn ? run.row[what][thing] : NONE;
    }

    public int ran(int what) {
        if (!run.isOn) {
            return FAR_NONE;
        }
        switch (what) {
            case 0:
                return run.week;
            case 1:
                return run.sign;
            case 2:
                return run.judged(current);
            default:
                return FAR_NONE;
        }
    }

    public int keep(int slot) {
        if (slot < 0 || slot >= SLOT_ROOM) {
            return RANGE;
        }
        if (!run.isOn) {
            return STATE;
        }
        slots[slot].becomeAs(run);
        return run.week;
    }

    public int take(int slot) {
        if (slot < 0 || slot >= SLOT_ROOM) {
            return RANGE;
        }
        if (!slots[slot].isOn) {
            return STATE;
        }
        run.becomeAs(slots[slot]);
        return run.week;
    }

    public int count(int what) {
        if (what == 0) {
            return current.clauses;
        }
        return what == 1 ? tapeSize : NONE;
    }

    // ---- numbers

    private static long tenTo(int n) {
        long power = 1;
        for (int i = 0; i < n; i++) {
            power *= TEN;
        }
        return power;
    }

    /** The upper or lower number of a fraction by least numbers; the lower one given is above 0. */
    private static long leastNumber(long upper, long lower, boolean isLower) {
        long divisor = lower;
        long rest = upper;
        // Each two rounds halve the rest at least, and a long has 63 halves.
        for (int i = 0; i < 130 && rest != 0; i++) {
            long over = divisor % rest;
            divisor = rest;
            rest = over;
        }
        long number = isLower ? lower : upper;
        return divisor == 0 ? number : number / divisor;
    }

    /** What a text told. Rows are made once and used again for the next text. */
    private static final class Post {
        int weeks;
        int cases;
        int clauses;
        int winters;
        int things;
        int families;
        boolean areWeeksTold;
        boolean areCasesTold;
        final long[] weight = new long[WINTER_ROOM];
        final int[][] sign = new int[WINTER_ROOM][SIGN_KINDS];
        final Thing[] thing = new Thing[THING_ROOM];
        final Family[] family = new Family[FAMILY_ROOM];

        Post() {
            for (int t = 0; t < THING_ROOM; t++) {
                thing[t] = new Thing();
            }
            for (int f = 0; f < FAMILY_ROOM; f++) {
                family[f] = new Family();
            }
            clear();
        }

        void clear() {
            weeks = 4;
            cases = 40;
            clauses = 0;
            winters = 0;
            things = 0;
            families = 0;
            areWeeksTold = false;
            areCasesTold = false;
        }

        boolean areWeightsTen() {
            long sum = 0;
            for (int w = 0; w < winters; w++) {
                sum += weight[w];
            }
            return winters == 0 || sum == TEN;
        }

        int owedBy(int set) {
            int sum = 0;
            for (int f = 0; f < families; f++) {
                if ((set >> f & 1) == 1) {
                    sum += family[f].owes;
                }
            }
            return sum;
        }

        int gainOf(int set) {
            int sum = 0;
            for (int f = 0; f < families; f++) {
                if ((set >> f & 1) == 1) {
                    sum += family[f].brings * TEN - (TEN - family[f].pays) * family[f].owes;
                }
            }
            return sum;
        }
    }

    private static final class Family {
        int pays;
        int owes;
        int brings;
    }

    private static final class Thing {
        int room;
        int cost;
        int pay;
        int lack;
        int left;
        int spoil;
        int helper;
        int helperPart;
        int ruleKind;
        int ruleLimit;
        /** For each winter in how many of ten weeks 0 .. 3 are wanted, and then how many are needed. */
        final int[][] want = new int[WINTER_ROOM][WANT_WIDTH];
        final boolean[] isWantTold = new boolean[WINTER_ROOM];

        void setRule(int kind, int limit) {
            ruleKind = kind;
            ruleLimit = limit;
        }

        void setUntold() {
            helper = NONE;
            helperPart = 0;
            setRule(FREE, 0);
            for (int w = 0; w < WINTER_ROOM; w++) {
                isWantTold[w] = false;
                want[w][0] = TEN;
                for (int n = 1; n < WANT_WIDTH; n++) {
                    want[w][n] = 0;
                }
            }
        }

        /** What of a stock may go to those who could do without. */
        int spareOf(int stock) {
            if (ruleKind != KEEP) {
                return stock;
            }
            return stock > ruleLimit ? stock - ruleLimit : 0;
        }
    }

    /** Reads the tape token by token into a post, up to the first fault. */
    private static final class Reader {
        private static final int WORD = 'w';
        private static final int NUMBER = 'n';
        private static final int SEMICOLON = ';';
        private static final int FINISH = 0;
        private static final int WRONG = 1;

        private static final int NO_FAULT = 0;
        private static final int SYNTAX_FAULT = 1;
        private static final int RANGE_FAULT = 2;
        private static final int TWICE_FAULT = 3;
        private static final int ROOM_FAULT = 4;
        private static final int UNKNOWN_FAULT = 5;
        private static final int LATE_FAULT = 6;
        private static final int SUM_FAULT = 7;

        private static final int BETWEEN = -1;
        private static final int WEEKS = 0;
        private static final int CASES = 1;
        private static final int WINTER = 2;
        private static final int THING = 3;
        private static final int WANT = 4;
        private static final int INSTEAD = 5;
        private static final int FAMILY = 6;
        private static final int CLAUSE_KINDS = 7;

        private static final int MOST_LETTERS = 8;
        private static final int MOST_DIGITS = 3;

        /** A row for each kind of clause, a column for each token behind its first word. */
        private static final int COLUMNS = 7;
        private static final int[] LEAST = {
            1, 0, 0, 0, 0, 0, 0,
            0, 0, 0, 0, 0, 0, 0,
            0, 0, 0, 0, 0, 0, 0,
            0, 1, 0, 0, 0, 0, 0,
            0, 0, 0, 0, 0, 0, 0,
            0, 0, 0, 0, 0, 0, 0,
            0, 0, 1, 0, 0, 0, 0,
        };
        private static final int[] MOST = {
            5, 0, 0, 0, 0, 0, 0,
            99, 0, 0, 0, 0, 0, 0,
            0, 10, 10, 10, 10, 0, 0,
            0, 9, 99, 99, 500, 99, 9,
            0, 0, 10, 10, 10, 10, 3,
            0, 0, 100, 0, 0, 0, 0,
            0, 10, 500, 500, 0, 0, 0,
        };
        private static final int FIRST_CHANCE = 2;
        private static final int LAST_SIGN = 4;
        private static final int LAST_WANT = 5;
        private static final int SPOIL_COLUMN = 6;

        private static final int NAME_ROOM = 6;

        int faultKind = NO_FAULT;
        int faultPlace = NONE;
        private byte[] text;
        private int size;
        private int at;
        private Post post;
        private int token;
        private int tokenStart;
        private int tokenValue;
        private int clause;
        private int column;
        private final int[] number = new int[COLUMNS];
        private final int[] nameStart = new int[CLAUSE_KINDS * NAME_ROOM];
        private final int[] nameSize = new int[CLAUSE_KINDS * NAME_ROOM];

        boolean reads(byte[] tape, int textSize, Post into) {
            text = tape;
            size = textSize;
            post = into;
            at = 0;
            clause = BETWEEN;
            faultKind = NO_FAULT;
            faultPlace = NONE;
            // Each token has a byte at least, and the end is one token more.
            for (int tokens = 0; tokens <= textSize; tokens++) {
                readToken();
                int kind = faultOfToken();
                if (kind != NO_FAULT) {
                    faultKind = kind;
                    faultPlace = tokenStart;
                    return false;
                }
                if (token == FINISH) {
                    return true;
                }
                acceptToken();
            }
            return false;
        }

        private void readToken() {
            while (at < size && isBlank(text[at])) {
                at++;
            }
            tokenStart = at;
            if (at >= size) {
                token = FINISH;
            } else if (isLetter(text[at])) {
                readWord();
            } else if (isDigit(text[at])) {
                readNumber();
            } else {
                token = text[at] == ';' ? SEMICOLON : WRONG;
                at++;
            }
        }

        private void readWord() {
            while (at < size && isLetter(text[at])) {
                at++;
            }
            token = at - tokenStart <= MOST_LETTERS ? WORD : WRONG;
        }

        private void readNumber() {
            tokenValue = 0;
            // A run that is too long may wrap around, but its value is never looked at.
            while (at < size && isDigit(text[at])) {
                tokenValue = tokenValue * TEN + text[at] - '0';
                at++;
            }
            token = at - tokenStart <= MOST_DIGITS ? NUMBER : WRONG;
        }

        private static boolean isBlank(int sign) {
            return sign == 32 || sign == 10;
        }

        private static boolean isLetter(int sign) {
            return sign >= 'a' && sign <= 'z';
        }

        private static boolean isDigit(int sign) {
            return sign >= '0' && sign <= '9';
        }

        private int faultOfToken() {
            if (clause == BETWEEN) {
                return faultBetween();
            }
            if (token != tokenDue()) {
                return SYNTAX_FAULT;
            }
            if (token == NUMBER) {
                return faultOfNumber();
            }
            return token == WORD ? faultOfName() : NO_FAULT;
        }

        private int faultBetween() {
            if (token == FINISH) {
                return post.areWeightsTen() ? NO_FAULT : SUM_FAULT;
            }
            switch (clauseNamed()) {
                case BETWEEN:
                    return SYNTAX_FAULT;
                case WEEKS:
                    return faultOfWeeks();
                case CASES:
                    return post.areCasesTold ? TWICE_FAULT : NO_FAULT;
                case WINTER:
                    return post.winters < WINTER_ROOM ? NO_FAULT : ROOM_FAULT;
                case THING:
                    return post.things < THING_ROOM ? NO_FAULT : ROOM_FAULT;
                case FAMILY:
                    return post.families < FAMILY_ROOM ? NO_FAULT : ROOM_FAULT;
                default:
                    return NO_FAULT;
            }
        }

        private int faultOfWeeks() {
            if (post.areWeeksTold) {
                return TWICE_FAULT;
            }
            return post.clauses > 0 ? LATE_FAULT : NO_FAULT;
        }

        private int clauseNamed() {
            if (token == WORD) {
                for (int kind = 0; kind < CLAUSE_KINDS; kind++) {
                    if (isTokenText(wordOf(kind))) {
                        return kind;
                    }
                }
            }
            return BETWEEN;
        }

        private boolean isTokenText(String word) {
            int letters = word.length();
            if (letters != at - tokenStart) {
                return false;
            }
            for (int i = 0; i < letters; i++) {
                if (word.charAt(i) != text[tokenStart + i]) {
                    return false;
                }
            }
            return true;
        }

        private static String wordOf(int kind) {
            switch (kind) {
                case WEEKS:
                    return "weeks";
                case CASES:
                    return "cases";
                case WINTER:
                    return "winter";
                case THING:
                    return "thing";
                case WANT:
                    return "want";
                case INSTEAD:
                    return "instead";
                default:
                    return "family";
            }
        }

        private static String shapeOf(int kind) {
            switch (kind) {
                case WEEKS:
                case CASES:
                    return "n";
                case WINTER:
                    return "wnnnn";
                case THING:
                    return "wnnnnnn";
                case WANT:
                    return "wwnnnnn";
                case INSTEAD:
                    return "wwn";
                default:
                    return "wnnn";
            }
        }

        private int tokenDue() {
            String shape = shapeOf(clause);
            return column < shape.length() ? shape.charAt(column) : SEMICOLON;
        }

        private int faultOfNumber() {
            int bound = clause * COLUMNS + column;
            if (tokenValue < LEAST[bound] || tokenValue > MOST[bound]) {
                return RANGE_FAULT;
            }
            // To spoil by one over one would leave nothing: the document has no such number.
            if (clause == THING && column == SPOIL_COLUMN && tokenValue == 1) {
                return RANGE_FAULT;
            }
            return isLastChance() && chancesSoFar() != TEN ? SUM_FAULT : NO_FAULT;
        }

        private boolean isLastChance() {
            return clause == WINTER && column == LAST_SIGN || clause == WANT && column == LAST_WANT;
        }

        private int chancesSoFar() {
            int sum = tokenValue;
            for (int i = FIRST_CHANCE; i < column; i++) {
                sum += number[i];
            }
            return sum;
        }

        private int faultOfName() {
            switch (clause) {
                case WANT:
                    return column == 0 ? faultOfKnown(THING) : faultOfWantedWinter();
                case INSTEAD:
                    return column == 0 ? faultOfKnown(THING) : faultOfHelped();
                default:
                    return numberNamed(clause) == NONE ? NO_FAULT : TWICE_FAULT;
            }
        }

        private int faultOfKnown(int kind) {
            return numberNamed(kind) == NONE ? UNKNOWN_FAULT : NO_FAULT;
        }

        private int faultOfWantedWinter() {
            int winter = numberNamed(WINTER);
            if (winter == NONE) {
                return UNKNOWN_FAULT;
            }
            return post.thing[number[0]].isWantTold[winter] ? TWICE_FAULT : NO_FAULT;
        }

        private int faultOfHelped() {
            int helped = numberNamed(THING);
            if (helped == NONE) {
                return UNKNOWN_FAULT;
            }
            boolean isHelped = post.thing[helped].helper != NONE;
            return helped == number[0] || isHelped ? TWICE_FAULT : NO_FAULT;
        }

        private int numberNamed(int kind) {
            int many = toldOf(kind);
            for (int i = 0; i < many; i++) {
                if (isNameToken(kind * NAME_ROOM + i)) {
                    return i;
                }
            }
            return NONE;
        }

        private int toldOf(int kind) {
            if (kind == WINTER) {
                return post.winters;
            }
            return kind == THING ? post.things : post.families;
        }

        private boolean isNameToken(int name) {
            if (nameSize[name] != at - tokenStart) {
                return false;
            }
            for (int i = 0; i < nameSize[name]; i++) {
                if (text[nameStart[name] + i] != text[tokenStart + i]) {
                    return false;
                }
            }
            return true;
        }

        private void acceptToken() {
            if (clause == BETWEEN) {
                clause = clauseNamed();
                column = 0;
            } else if (token == SEMICOLON) {
                settleClause();
                post.clauses++;
                clause = BETWEEN;
            } else {
                number[column] = token == NUMBER ? tokenValue : acceptName();
                column++;
            }
        }

        private int acceptName() {
            if (clause == WANT && column == 1) {
                return numberNamed(WINTER);
            }
            if (clause == WANT || clause == INSTEAD) {
                return numberNamed(THING);
            }
            int name = clause * NAME_ROOM + toldOf(clause);
            nameStart[name] = tokenStart;
            nameSize[name] = at - tokenStart;
            return toldOf(clause);
        }

        private void settleClause() {
            switch (clause) {
                case WEEKS:
                    post.weeks = number[0];
                    post.areWeeksTold = true;
                    break;
                case CASES:
                    post.cases = number[0];
                    post.areCasesTold = true;
                    break;
                case WINTER:
                    settleWinter();
                    break;
                case THING:
                    settleThing(post.thing[number[0]]);
                    break;
                case WANT:
                    settleWant(post.thing[number[0]], number[1]);
                    break;
                case INSTEAD:
                    post.thing[number[1]].helper = number[0];
                    post.thing[number[1]].helperPart = number[2];
                    break;
                default:
                    settleFamily(post.family[number[0]]);
                    break;
            }
        }

        private void settleWinter() {
            int winter = number[0];
            post.weight[winter] = number[1];
            for (int sign = 0; sign < SIGN_KINDS; sign++) {
                post.sign[winter][sign] = number[FIRST_CHANCE + sign];
            }
            post.winters++;
        }

        private void settleThing(Thing thing) {
            thing.setUntold();
            thing.room = number[1];
            thing.cost = number[2];
            thing.pay = number[3];
            thing.lack = number[4];
            thing.left = number[5];
            thing.spoil = number[6];
            post.things++;
        }

        private void settleWant(Thing thing, int winter) {
            for (int n = 0; n < WANT_WIDTH; n++) {
                thing.want[winter][n] = number[FIRST_CHANCE + n];
            }
            thing.isWantTold[winter] = true;
        }

        private void settleFamily(Family family) {
            family.pays = number[1];
            family.owes = number[2];
            family.brings = number[3];
            post.families++;
        }
    }

    /** One week of one thing: first it is given out, then what is there spoils. */
    private static final class Week {
        int rest;
        int given;
        int lacked;
        int missed;
        int spoilt;

        void giveOut(Thing thing, int stock, int wanted, int needed) {
            int needs = Math.min(wanted, needed);
            int wishes = wanted - needs;
            if (thing.ruleKind == DEAR && stock <= thing.ruleLimit && wishes > 0) {
                wishes--;
            }
            int needsMet = Math.min(needs, stock);
            int wishesMet = Math.min(wishes, thing.spareOf(stock - needsMet));
            given = needsMet + wishesMet;
            lacked = needs - needsMet;
            missed = wishes - wishesMet;
            rest = stock - given;
        }

        void letSpoil(Thing thing) {
            spoilt = thing.spoil < 2 ? 0 : rest / thing.spoil;
            rest -= spoilt;
        }
    }

    /**
     * What is to come of one thing, exactly by chances: for every stock at once, backwards from the
     * last week, each week ten times as many ways.
     */
    private static final class Outlook {
        private static final int MOST_STOCK = MOST_ORDER + MOST_SLEDGE;

        /** By stock: in one winter, and in any of them by their parts. */
        final long[] value = new long[MOST_STOCK + 1];
        final long[] any = new long[MOST_STOCK + 1];
        private final long[] fresh = new long[MOST_STOCK + 1];
        private final long[] behind = new long[MOST_STOCK + 1];
        private final Week week = new Week();
        private boolean isSafety;
        private long perGiven;
        private long perLacked;
        private long perMissed;
        private long perSpoilt;
        private long perLeft;
        private long ways;
        private int sledgeWeek;
        private int sledgeStock;
        private int sledgeMany;
        private int sledgePrice;

        void valueCounts(int what) {
            isSafety = false;
            perGiven = what == 0 ? 1 : 0;
            perLacked = what == 1 ? 1 : 0;
            perMissed = what == 2 ? 1 : 0;
            perSpoilt = what == 3 ? 1 : 0;
            perLeft = what == 4 ? 1 : 0;
        }

        void valueMoney(Thing thing) {
            isSafety = false;
            perGiven = thing.pay;
            perLacked = -thing.lack;
            perMissed = 0;
            perSpoilt = 0;
            perLeft = thing.left;
        }

        void valueSafety() {
            isSafety = true;
        }

        private void valueEnd(int most) {
            for (int stock = 0; stock <= most; stock++) {
                value[stock] = isSafety ? 1 : perLeft * stock;
            }
            ways = 1;
        }

        private void weeksBack(Thing thing, int winter, int weeks, int most) {
            for (int i = 0; i < weeks; i++) {
                for (int stock = 0; stock <= most; stock++) {
                    fresh[stock] = valueBefore(thing, thing.want[winter], stock);
                }
                System.arraycopy(fresh, 0, value, 0, most + 1);
                ways *= TEN;
            }
        }

        private long valueBefore(Thing thing, int[] want, int stock) {
            long sum = 0;
            for (int wanted = 0; wanted < WANT_KINDS; wanted++) {
                if (want[wanted] > 0) {
                    week.giveOut(thing, stock, wanted, want[WANT_KINDS]);
                    week.letSpoil(thing);
                    sum += want[wanted] * valueOfWeek();
                }
            }
            return sum;
        }

        private long valueOfWeek() {
            if (isSafety) {
                return week.lacked > 0 ? 0 : value[week.rest];
            }
            long gain = perGiven * week.given + perLacked * week.lacked
                + perMissed * week.missed + perSpoilt * week.spoilt;
            return gain * ways + value[week.rest];
        }

        void passWinter(Thing thing, int winter, int weeks, int most) {
            valueEnd(most);
            weeksBack(thing, winter, weeks, most);
        }

        void passAny(Post post, Thing thing, long[] part, int weeks, int most) {
            clearAny(most);
            for (int winter = 0; winter < post.winters; winter++) {
                valueEnd(most);
                weeksBack(thing, winter, weeks, most);
                addToAny(part[winter], most);
            }
        }

        private void clearAny(int most) {
            for (int stock = 0; stock <= most; stock++) {
                any[stock] = 0;
            }
        }

        private void addToAny(long part, int most) {
            for (int stock = 0; stock <= most; stock++) {
                any[stock] += part * value[stock];
            }
        }

        /** The score by parts of the winters, for every order up to the most. */
        void scoreRow(Post post, Thing thing, long[] part, int most) {
            valueMoney(thing);
            passAny(post, thing, part, post.weeks, most);
            long all = 0;
            for (int winter = 0; winter < post.winters; winter++) {
                all += part[winter];
            }
            payFor(thing, most, all * tenTo(post.weeks));
        }

        private void payFor(Thing thing, int most, long allWays) {
            for (int q = 0; q <= most; q++) {
                any[q] -= thing.cost * q * allWays;
            }
        }

        int bestOrder() {
            int best = 0;
            for (int q = 1; q <= MOST_ORDER; q++) {
                if (any[q] > any[best]) {
                    best = q;
                }
            }
            return best;
        }

        void setSledge(int week, int stock, int many, int price) {
            sledgeWeek = week;
            sledgeStock = stock;
            sledgeMany = many;
            sledgePrice = price;
        }

        long sledgeScore(Post post, Thing thing, int q) {
            valueMoney(thing);
            clearAny(q);
            for (int winter = 0; winter < post.winters; winter++) {
                passSledgeWinter(thing, winter, post.weeks, q);
                addToAny(post.weight[winter], q);
            }
            payFor(thing, q, tenTo(post.weeks + 1));
            return any[q];
        }

        private void passSledgeWinter(Thing thing, int winter, int weeks, int q) {
            valueEnd(q + sledgeMany);
            weeksBack(thing, winter, weeks - sledgeWeek, q + sledgeMany);
            // From the least up: what is read stands above all that was changed.
            for (int stock = 0; stock <= q && stock <= sledgeStock; stock++) {
                value[stock] = value[stock + sledgeMany] - sledgePrice * sledgeMany * ways;
            }
            weeksBack(thing, winter, sledgeWeek, q);
        }

        /** The score with a second winter in so many of ten years, for every order up to the most. */
        void secondRow(Post post, Thing thing, int years, int most) {
            valueMoney(thing);
            passAny(post, thing, post.weight, post.weeks, most);
            long waysBehind = tenTo(post.weeks + 1);
            for (int stock = 0; stock <= most; stock++) {
                behind[stock] = (TEN - years) * perLeft * stock * waysBehind + years * any[stock];
            }
            clearAny(most);
            for (int winter = 0; winter < post.winters; winter++) {
                System.arraycopy(behind, 0, value, 0, most + 1);
                ways = waysBehind * TEN;
                weeksBack(thing, winter, post.weeks, most);
                addToAny(post.weight[winter], most);
            }
            payFor(thing, most, tenTo(2 * post.weeks + 3));
        }
    }

    /** Two things of which one does for the other, for every two stocks at once, backwards. */
    private static final class Pair {
        private static final int WIDTH = MOST_PAIRED + 1;
        private static final int WAYS_A_WEEK = 100;

        private final long[] value = new long[WIDTH * WIDTH];
        private final long[] fresh = new long[WIDTH * WIDTH];
        private final Week helpedWeek = new Week();
        private final Week helperWeek = new Week();
        private long ways;

        long together(Post post, Thing helped, Thing helper, int q, int r) {
            long sum = 0;
            for (int winter = 0; winter < post.winters; winter++) {
                valueEnd(helped, helper, q, r);
                for (int i = 0; i < post.weeks; i++) {
                    weekBack(helped, helper, winter, q, r);
                }
                sum += post.weight[winter] * value[q * WIDTH + r];
            }
            long cost = helped.cost * q + helper.cost * r;
            return sum - cost * tenTo(2 * post.weeks + 1);
        }

        private void valueEnd(Thing helped, Thing helper, int q, int r) {
            for (int stock = 0; stock <= q; stock++) {
                for (int other = 0; other <= r; other++) {
                    value[stock * WIDTH + other] = helped.left * stock + helper.left * other;
                }
            }
            ways = 1;
        }

        private void weekBack(Thing helped, Thing helper, int winter, int q, int r) {
            for (int stock = 0; stock <= q; stock++) {
                for (int other = 0; other <= r; other++) {
                    fresh[stock * WIDTH + other] = valueBefore(helped, helper, winter, stock, other);
                }
            }
            System.arraycopy(fresh, 0, value, 0, q * WIDTH + r + 1);
            ways *= WAYS_A_WEEK;
        }

        private long valueBefore(Thing helped, Thing helper, int winter, int stock, int other) {
            int[] wantHelped = helped.want[winter];
            int[] wantHelper = helper.want[winter];
            long sum = 0;
            for (int i = 0; i < WANT_KINDS; i++) {
                for (int j = 0; j < WANT_KINDS; j++) {
                    int chance = wantHelped[i] * wantHelper[j];
                    if (chance > 0) {
                        helpedWeek.giveOut(helped, stock, i, wantHelped[WANT_KINDS]);
                        helperWeek.giveOut(helper, other, j, wantHelper[WANT_KINDS]);
                        sum += chance * valueOfWeek(helped, helper);
                    }
                }
            }
            return sum;
        }

        private long valueOfWeek(Thing helped, Thing helper) {
            int moved = giveInstead(helper);
            helpedWeek.letSpoil(helped);
            helperWeek.letSpoil(helper);
            long gain = helped.pay * helpedWeek.given - helped.lack * helpedWeek.lacked
                + helper.pay * helperWeek.given - helper.lack * helperWeek.lacked
                + moved * (helped.pay * helped.helperPart / 100);
            return gain * ways + value[helpedWeek.rest * WIDTH + helperWeek.rest];
        }

        /** What is missed is worth nothing either way, so that it is enough to count what goes to it. */
        private int giveInstead(Thing helper) {
            int spare = helper.spareOf(helperWeek.rest);
            int toLacked = Math.min(helpedWeek.lacked, spare);
            int toMissed = Math.min(helpedWeek.missed, spare - toLacked);
            helpedWeek.lacked -= toLacked;
            helperWeek.rest -= toLacked + toMissed;
            return toLacked + toMissed;
        }
    }

    /** The list of orders that is best for the cases there are. */
    private static final class Loading {
        final long[][] score = new long[THING_ROOM][MOST_ORDER + 1];
        final int[] chosen = new int[THING_ROOM];
        boolean isTold = false;
        /** The best sum of the things from one on, with so many cases for them. */
        private final long[][] best = new long[THING_ROOM + 1][CASE_ROOM + 1];

        long choose(Post post) {
            for (int cases = 0; cases <= post.cases; cases++) {
                best[post.things][cases] = 0;
            }
            for (int t = post.things - 1; t >= 0; t--) {
                for (int cases = 0; cases <= post.cases; cases++) {
                    int q = bestFor(t, post.thing[t].room, cases);
                    best[t][cases] = sumWith(t, q, cases - q * post.thing[t].room);
                }
            }
            chooseEach(post);
            isTold = true;
            return best[0][post.cases];
        }

        private int bestFor(int t, int room, int cases) {
            int q = 0;
            for (int more = 1; more <= MOST_ORDER && more * room <= cases; more++) {
                if (sumWith(t, more, cases - more * room) > sumWith(t, q, cases - q * room)) {
                    q = more;
                }
            }
            return q;
        }

        private long sumWith(int t, int q, int casesLeft) {
            return score[t][q] + best[t + 1][casesLeft];
        }

        private void chooseEach(Post post) {
            int cases = post.cases;
            for (int t = 0; t < post.things; t++) {
                chosen[t] = bestFor(t, post.thing[t].room, cases);
                cases -= chosen[t] * post.thing[t].room;
            }
        }
    }

    /** A winter by a seed, week by week. */
    private static final class Run {
        static final int ROWS_TOLD = 6;
        private static final int STOCK = 0;
        private static final int GIVEN = 1;
        private static final int LACKED = 2;
        private static final int MISSED = 3;
        private static final int SPOILT = 4;
        private static final int WANTED = 5;
        private static final int ORDERED = 6;
        private static final int ROWS = 7;

        boolean isOn = false;
        int winter;
        int week;
        int sign;
        final int[][] row = new int[ROWS][THING_ROOM];
        private long seed;
        private final Week passing = new Week();

        void order(int thing, int q) {
            for (int i = 0; i < ROWS; i++) {
                row[i][thing] = 0;
            }
            row[STOCK][thing] = q;
            row[ORDERED][thing] = q;
            row[WANTED][thing] = NONE;
        }

        void start(Post post, int firstSeed) {
            isOn = true;
            seed = firstSeed;
            week = 0;
            sign = NONE;
            winter = drawWinter(post);
        }

        private int drawOfTen() {
            seed = (1103515245L * seed + 12345L) % 2147483648L;
            return (int) (seed / 65536 % TEN);
        }

        private int drawWinter(Post post) {
            long drawn = drawOfTen();
            int falls = 0;
            for (int w = 0; w < post.winters - 1 && drawn >= post.weight[w]; w++) {
                drawn -= post.weight[w];
                falls = w + 1;
            }
            return falls;
        }

        private int drawKind(int[] chance, int kinds) {
            int drawn = drawOfTen();
            int falls = 0;
            for (int kind = 0; kind < kinds - 1 && drawn >= chance[kind]; kind++) {
                drawn -= chance[kind];
                falls = kind + 1;
            }
            return falls;
        }

        void passWeek(Post post) {
            sign = drawKind(post.sign[winter], SIGN_KINDS);
            for (int t = 0; t < post.things; t++) {
                int[] want = post.thing[t].want[winter];
                passThing(post.thing[t], t, drawKind(want, WANT_KINDS), want[WANT_KINDS]);
            }
            week++;
        }

        private void passThing(Thing thing, int t, int wanted, int needed) {
            passing.giveOut(thing, row[STOCK][t], wanted, needed);
            passing.letSpoil(thing);
            row[STOCK][t] = passing.rest;
            row[GIVEN][t] += passing.given;
            row[LACKED][t] += passing.lacked;
            row[MISSED][t] += passing.missed;
            row[SPOILT][t] += passing.spoilt;
            row[WANTED][t] = wanted;
        }

        int judged(Post post) {
            int sum = 0;
            for (int t = 0; t < post.things; t++) {
                Thing thing = post.thing[t];
                sum += thing.pay * row[GIVEN][t] - thing.lack * row[LACKED][t] - thing.cost * row[ORDERED][t];
                if (week >= post.weeks) {
                    sum += thing.left * row[STOCK][t];
                }
            }
            return sum;
        }

        void becomeAs(Run other) {
            isOn = other.isOn;
            winter = other.winter;
            week = other.week;
            sign = other.sign;
            seed = other.seed;
            for (int i = 0; i < ROWS; i++) {
                System.arraycopy(other.row[i], 0, row[i], 0, THING_ROOM);
            }
        }
    }
}
