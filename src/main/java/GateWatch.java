import java.util.Arrays;

/**
 * Which gate to watch today: things that go well or ill unseen, and plans of looking at them.
 * What each call promises stands in ../shared/DOC.md; the words here are the document's.
 */
public final class GateWatch {
    public static final int NONE = -1, BAD = -2, STATE = -3, FULL = -4;
    public static final long NO = Long.MIN_VALUE;

    private static final int TAPE = 120, SORTS = 6, THINGS = 8, PLANS = 12, ROW_DAYS = 10;
    private static final int LAST_DAY = 999, LAST_PLACE = 99, LAST_V = 99, LAST_SEED = 999;
    private static final int SURE = 1000000, MOST_WAGE = 200, MOST_LOOKS = 3, MOST_CHANGE = 30;
    private static final int NO_ANSWER = -5, OTHER_KIND = -6, FIRST_FAULT = -10;
    private static final int ROUND_DAYS = 3, TRACE_KEPT = 20;
    private static final int ILL = 0, HEAL = 1, WELL = 2, BAD_DAY = 3, LOOK = 4, MEND = 5;

    /** The spots of a THING: how it may be in the days to come, a path of days for each beginning. */
    private static final int PATH = 11, AS_IT_IS = 0, SEEN_WELL = PATH, SEEN_ILL = 2 * PATH, SPOTS = 3 * PATH;

    private final Book book = new Book();
    private final Book kept = new Book();
    private boolean hasImage = false;
    private final Outlook outlook = new Outlook(book);
    private final Tree tree = new Tree(outlook);
    private final int[] today = new int[THINGS];
    private final int[] bodies = new int[1 + TRACE_KEPT];

    public GateWatch() {
    }

    // ---- sorts, things

    public int feed(long w, int n) {
        if (n < 1 || n > 8) {
            return BAD;
        }
        if (book.tapeSize + n > TAPE) {
            return FULL;
        }
        for (int i = n - 1; i >= 0; i--) {
            book.tape[book.tapeSize] = (byte) (w >>> (8 * i));
            book.tapeSize++;
        }
        return book.tapeSize;
    }

    public int sort() {
        if (book.sortCount >= SORTS) {
            return FULL;
        }
        Sort sort = new Sort(book.tape, book.tapeSize);
        int fault = sort.readText();
        book.tapeSize = 0;
        if (fault >= 0) {
            return FIRST_FAULT - fault;
        }
        book.sorts[book.sortCount] = sort;
        book.sortCount++;
        return book.sortCount - 1;
    }

    public int told(int sort, int d, int k, int what) {
        if (!within(sort, 0, book.sortCount - 1) || !within(what, ILL, MEND)) {
            return NONE;
        }
        if (!within(d, 0, LAST_DAY) || !within(k, 0, LAST_PLACE)) {
            return BAD;
        }
        Sort asked = book.sorts[sort];
        return what == ILL || what == HEAL ? asked.chance(what, d, k) : asked.last[what];
    }

    public int thing(int sort, int place) {
        if (!within(sort, 0, book.sortCount - 1)) {
            return NONE;
        }
        if (!within(place, 0, LAST_PLACE)) {
            return BAD;
        }
        if (book.thingCount >= THINGS) {
            return FULL;
        }
        return book.addThing(sort, place);
    }

    public int of(int thing, int what) {
        if (!book.hasThing(thing)) {
            return NONE;
        }
        switch (what) {
            case 0: return book.sortOf[thing];
            case 1: return book.place[thing];
            case 2: return book.known[thing];
            case 3: return book.since[thing];
            case 4: return book.shownWell[thing];
            case 5: return book.shownIll[thing];
            default: return NONE;
        }
    }

    public int days(int n) {
        if (!within(n, 1, 20) || book.now + n > LAST_DAY) {
            return BAD;
        }
        for (int i = 0; i < n; i++) {
            book.goOver();
        }
        return book.now;
    }

    public int seen(int thing, boolean well) {
        if (!book.hasThing(thing)) {
            return NONE;
        }
        int ahead = book.known[thing];
        book.well[thing] = well;
        book.known[thing] = well ? SURE : 0;
        book.since[thing] = 0;
        return ahead;
    }

    // ---- one thing

    public long best(int thing, int w, int n, int what) {
        if (!book.hasThing(thing) || !within(w, 0, MOST_WAGE) || !within(n, 1, 8) || !within(what, 0, 2)) {
            return NO;
        }
        outlook.lay(thing, n, 0);
        outlook.weigh(thing, AS_IT_IS, w, n);
        if (what == 0) {
            return Math.max(outlook.notLooked, outlook.looked);
        }
        return what == 1 ? outlook.notLooked : outlook.looked;
    }

    public int number(int thing, int n) {
        if (!book.hasThing(thing)) {
            return NONE;
        }
        if (!within(n, 1, 8)) {
            return BAD;
        }
        outlook.lay(thing, n, 0);
        int wage = outlook.leastWage(thing, AS_IT_IS, n);
        return wage > MOST_WAGE ? NO_ANSWER : wage;
    }

    public int such(int thing, int n) {
        int wage = number(thing, n);
        if (wage < 0) {
            return wage;
        }
        for (int w = wage + 1; w <= MOST_WAGE; w++) {
            outlook.weigh(thing, AS_IT_IS, w, n);
            if (outlook.notLooked < outlook.looked) {
                return 0;
            }
        }
        return 1;
    }

    // ---- plans

    public int looks(int n) {
        if (!within(n, 1, MOST_LOOKS)) {
            return BAD;
        }
        int ahead = book.looks;
        book.looks = n;
        return ahead;
    }

    public int plan(int kind, int v) {
        if (!within(kind, 0, 6)) {
            return NONE;
        }
        if (!within(v, 0, LAST_V)) {
            return BAD;
        }
        if (book.planCount >= PLANS) {
            return FULL;
        }
        return book.addPlan(planOf(kind, book.planCount, v));
    }

    public int row(int plan, int things) {
        Plan longer = book.planAt(plan);
        if (longer == null) {
            return NONE;
        }
        if (!within(things, 0, (1 << book.thingCount) - 1)) {
            return BAD;
        }
        if (!(longer instanceof Told)) {
            return STATE;
        }
        int size = book.rowSize[plan];
        if (size >= ROW_DAYS) {
            return FULL;
        }
        book.rows[plan][size] = things;
        book.rowSize[plan] = size + 1;
        return size + 1;
    }

    public int whom(int plan) {
        Plan asked = book.planAt(plan);
        return asked == null ? NONE : whomNow(asked);
    }

    public long mean(int plan, int n) {
        Plan asked = book.planAt(plan);
        if (asked == null || !within(n, 1, 3)) {
            return NO;
        }
        outlook.layAll(n + asked.daysAhead());
        return tree.meanOf(asked, n);
    }

    public long all(int n, int what) {
        if (!within(n, 1, 2) || !within(what, 0, 1) || book.thingCount == 0) {
            return NO;
        }
        outlook.layAll(n);
        long greatest = tree.greatestMean(n);
        return what == 0 ? greatest : tree.firstSet;
    }

    public long loses(int plan, int n) {
        Plan asked = book.planAt(plan);
        if (asked == null || !within(n, 1, 2) || book.thingCount == 0) {
            return NO;
        }
        outlook.layAll(n + asked.daysAhead());
        return tree.greatestMean(n) - tree.meanOf(asked, n);
    }

    public long bound(int n) {
        if (!within(n, 1, 8)) {
            return NO;
        }
        outlook.layAll(n);
        long unseen = n * 1000L * (book.thingCount - book.looksOrAll());
        long least = outlook.sumAlone(0, n);
        for (int w = 1; w <= MOST_WAGE; w++) {
            least = Math.min(least, outlook.sumAlone(w, n) - w * unseen);
        }
        return least;
    }

    public int judged(int plan, int n) {
        Plan asked = book.planAt(plan);
        if (asked == null) {
            return NONE;
        }
        if (!within(n, 1, 10)) {
            return BAD;
        }
        if (!(asked instanceof Told) || book.rowSize[plan] == 0) {
            return STATE;
        }
        outlook.layAll(n);
        return tree.firstOutdone(asked, n);
    }

    // ---- runs, rounds, ways, edges

    public long run(int plan, int n, int seed) {
        Plan asked = book.planAt(plan);
        if (asked == null || !within(n, 1, 30) || !within(seed, 0, LAST_SEED) || book.now + n > LAST_DAY) {
            return NO;
        }
        long sum = 0;
        for (int i = 0; i < n; i++) {
            sum += book.lookAndPay(whomNow(asked));
            book.turnAll(seed);
            book.goOver();
        }
        return sum;
    }

    public long round(int n, int i) {
        if (!within(n, 1, ROUND_DAYS) || !within(i, -1, n - 1) || book.thingCount == 0) {
            return NO;
        }
        outlook.layAll(ROUND_DAYS);
        long greatest = tree.greatestRound(n);
        return i < 0 ? greatest : tree.bestRow[i];
    }

    public int tour(int b, int n) {
        if (!within(b, 0, 200) || !within(n, 1, 8)) {
            return BAD;
        }
        outlook.layAll(n);
        outlook.weighAll(n);
        int greatest = 0;
        int found = 0;
        for (int set = 1; set < 1 << book.thingCount; set++) {
            if (Integer.bitCount(set) <= book.looks && book.wayOf(set) <= b) {
                int sum = outlook.worthOf(set);
                if (sum > greatest) {
                    greatest = sum;
                    found = set;
                }
            }
        }
        return found;
    }

    public int edge(int thing, int n) {
        if (!book.hasThing(thing)) {
            return NONE;
        }
        if (!within(n, 1, 4)) {
            return BAD;
        }
        if (book.thingCount == 1) {
            return STATE;
        }
        outlook.layAll(n);
        outlook.weighAll(n);
        int first = outlook.worthiest();
        for (int change = 1; change <= MOST_CHANGE; change++) {
            if (outlook.worthiestWith(thing, n, -change) != first) {
                return -change;
            }
            if (outlook.worthiestWith(thing, n, change) != first) {
                return change;
            }
        }
        return 0;
    }

    // ---- acts, the image

    public int act(int plan, int act, int x) {
        bodies[0] = 0;
        Plan asked = book.planAt(plan);
        if (asked == null) {
            return 0;
        }
        switch (act) {
            case 0: return asked.means(x, bodies);
            case 1: return asked.rows(x, bodies);
            case 2: return asked.ends(x, bodies);
            default: return 0;
        }
    }

    public int trace(int i) {
        return within(i, 0, Math.min(bodies[0], TRACE_KEPT) - 1) ? bodies[1 + i] : NONE;
    }

    public int as(int plan, int k) {
        Plan asked = book.planAt(plan);
        if (asked == null || !within(k, 0, 6)) {
            return NONE;
        }
        return isOfKind(asked, k) ? asked.v : OTHER_KIND;
    }

    public int image() {
        kept.copyFrom(book);
        hasImage = true;
        return book.now;
    }

    public int undo() {
        if (!hasImage) {
            return STATE;
        }
        book.copyFrom(kept);
        return book.now;
    }

    public int count(int what) {
        switch (what) {
            case 0: return book.sortCount;
            case 1: return book.thingCount;
            case 2: return book.planCount;
            case 3: return book.now;
            case 4: return book.looks;
            case 5: return book.tapeSize;
            case 6: return bodies[0];
            default: return NONE;
        }
    }

    // ---- what several calls use

    private static boolean within(int n, int least, int most) {
        return n >= least && n <= most;
    }

    /** The mean of both ways that a LOOK can show; long division cuts toward 0, as it is due. */
    private static long bothWays(int known, long behindWell, long behindIll) {
        return (known * behindWell + (SURE - known) * behindIll) / SURE;
    }

    private static Plan planOf(int kind, int i, int v) {
        switch (kind) {
            case 1: return new Numbered(i, v);
            case 2: return new Turn(i, v);
            case 3: return new Near(i, v);
            case 4: return new Drawn(i, v);
            case 5: return new Far(i, v);
            case 6: return new Told(i, v);
            default: return new Plan(i, v);
        }
    }

    private static boolean isOfKind(Plan plan, int kind) {
        switch (kind) {
            case 1: return plan instanceof Numbered;
            case 2: return plan instanceof Turn;
            case 3: return plan instanceof Near;
            case 4: return plan instanceof Drawn;
            case 5: return plan instanceof Far;
            case 6: return plan instanceof Told;
            default: return true;
        }
    }

    private int whomNow(Plan plan) {
        outlook.layAll(plan.daysAhead());
        return plan.chosen(outlook, today, book.now);
    }

    /** A SORT: its text, and what was read from it. */
    private static final class Sort {
        private static final int CLAUSES = 10, MOST_OPEN = 5, DIGITS = 3;
        private static final int NOT = -1, AND = -2, OR = -3;

        /** By the numbers of what told() asks for; ill and heal have none here. */
        final int[] last = new int[6];
        private final byte[] text;
        private int at = 0;
        private int number = 0;
        /** All tests, each operator behind what it is for: so no tree need be kept. */
        private final int[] code = new int[TAPE];
        private int codeSize = 0;
        private final int[] clauseWord = new int[CLAUSES];
        private final int[] clauseNumber = new int[CLAUSES];
        private final int[] clauseEnd = new int[CLAUSES];
        private int clauses = 0;

        Sort(byte[] tape, int size) {
            text = Arrays.copyOf(tape, size);
        }

        /** The FAULT, or NONE. Whatever reads a part of the text leaves its place at the FAULT. */
        int readText() {
            for (int i = 1; i <= CLAUSES; i++) {
                if (!readClause()) {
                    return at;
                }
                if (at == text.length) {
                    return NONE;
                }
                if (i == CLAUSES || !take(';')) {
                    return at;
                }
            }
            return at;
        }

        private boolean readClause() {
            int word = readWord();
            if (word < 0 || !take(' ') || !readNumber()) {
                return false;
            }
            if (word != ILL && word != HEAL) {
                last[word] = number;
                return true;
            }
            int told = number;
            return take(' ') && readEither(0) && addClause(word, told);
        }

        private boolean addClause(int word, int n) {
            if (clauses >= CLAUSES) {
                return false;
            }
            clauseWord[clauses] = word;
            clauseNumber[clauses] = n;
            clauseEnd[clauses] = codeSize;
            clauses++;
            return true;
        }

        private static String wordFor(int what) {
            switch (what) {
                case ILL: return "ill";
                case HEAL: return "heal";
                case WELL: return "well";
                case BAD_DAY: return "bad";
                case LOOK: return "look";
                default: return "mend";
            }
        }

        /** No word begins another, so the text can go on as far as the word that it follows longest. */
        private int readWord() {
            int longest = 0;
            for (int what = ILL; what <= MEND; what++) {
                String word = wordFor(what);
                int alike = alikeWith(word);
                if (alike == word.length()) {
                    at += alike;
                    return what;
                }
                longest = Math.max(longest, alike);
            }
            at += longest;
            return NONE;
        }

        private int alikeWith(String word) {
            int alike = 0;
            while (alike < word.length() && at + alike < text.length && text[at + alike] == word.charAt(alike)) {
                alike++;
            }
            return alike;
        }

        private boolean take(char sign) {
            if (at >= text.length || text[at] != sign) {
                return false;
            }
            at++;
            return true;
        }

        private boolean readNumber() {
            number = 0;
            int digits = 0;
            boolean more = true;
            while (more && digits < DIGITS && at < text.length && text[at] >= '0' && text[at] <= '9') {
                number = number * 10 + text[at] - '0';
                at++;
                digits++;
                more = number > 0;
            }
            return digits > 0;
        }

        private boolean readEither(int open) {
            if (!readBoth(open)) {
                return false;
            }
            for (int i = 0; i < TAPE && take('|'); i++) {
                if (!readBoth(open) || !put(OR)) {
                    return false;
                }
            }
            return true;
        }

        private boolean readBoth(int open) {
            if (!readPart(open)) {
                return false;
            }
            for (int i = 0; i < TAPE && take('&'); i++) {
                if (!readPart(open) || !put(AND)) {
                    return false;
                }
            }
            return true;
        }

        private boolean readPart(int open) {
            if (open < MOST_OPEN && take('!')) {
                return readPart(open + 1) && put(NOT);
            }
            if (open < MOST_OPEN && take('(')) {
                return readEither(open + 1) && take(')');
            }
            return readTest();
        }

        private boolean readTest() {
            int asked = take('d') ? 0 : take('k') ? 1 : NONE;
            if (asked < 0) {
                return false;
            }
            int sign = take('<') ? 0 : take('=') ? 1 : take('>') ? 2 : NONE;
            if (sign < 0 || !readNumber()) {
                return false;
            }
            return put(number * 8 + sign * 2 + asked);
        }

        private boolean put(int step) {
            if (codeSize >= TAPE) {
                return false;
            }
            code[codeSize] = step;
            codeSize++;
            return true;
        }

        /** ILL or HEAL by d and k. */
        int chance(int word, int d, int k) {
            int sum = 0;
            int from = 0;
            for (int c = 0; c < clauses; c++) {
                if (clauseWord[c] == word && holds(from, clauseEnd[c], d, k)) {
                    sum += clauseNumber[c];
                }
                from = clauseEnd[c];
            }
            return Math.min(sum, 1000);
        }

        /** What is still to be joined stands in the bits of one int: with 5 open there are 13 at most. */
        private boolean holds(int from, int end, int d, int k) {
            int truths = 0;
            for (int i = from; i < end; i++) {
                int step = code[i];
                int top = truths & 1;
                if (step == NOT) {
                    truths ^= 1;
                } else if (step == AND) {
                    truths = (truths >> 1) & (-2 | top);
                } else if (step == OR) {
                    truths = (truths >> 1) | top;
                } else {
                    int value = (step & 1) == 0 ? d : k;
                    int sign = step / 2 % 4;
                    int told = step / 8;
                    boolean passes = sign == 0 ? value < told : sign == 1 ? value == told : value > told;
                    truths = (truths << 1) | (passes ? 1 : 0);
                }
            }
            return (truths & 1) == 1;
        }

        /** KNOWN behind a DAY, with a change of ILL (EDGE asks for one). */
        int knownOver(int known, int d, int k, int change) {
            int ill = Math.max(0, Math.min(1000, chance(ILL, d, k) + change));
            return known * (1000 - ill) / 1000 + (SURE - known) * chance(HEAL, d, k) / 1000;
        }

        int bringsBy(int known) {
            return known * last[WELL] / 1000 - (SURE - known) * last[BAD_DAY] / 1000;
        }

        long lookCost() {
            return last[LOOK] * 1000L;
        }

        long mendCost() {
            return last[MEND] * 1000L;
        }

        boolean mends() {
            return last[MEND] > 0;
        }
    }

    /** All that there is but THE IMAGE and THE TRACE: THE IMAGE is a second one. */
    private static final class Book {
        final byte[] tape = new byte[TAPE];
        int tapeSize = 0;
        final Sort[] sorts = new Sort[SORTS];
        int sortCount = 0;
        final int[] sortOf = new int[THINGS];
        final int[] place = new int[THINGS];
        final int[] known = new int[THINGS];
        final int[] since = new int[THINGS];
        final int[] shownWell = new int[THINGS];
        final int[] shownIll = new int[THINGS];
        final boolean[] well = new boolean[THINGS];
        int thingCount = 0;
        final Plan[] plans = new Plan[PLANS];
        final int[] rowSize = new int[PLANS];
        final int[][] rows = new int[PLANS][ROW_DAYS];
        int planCount = 0;
        int now = 0;
        int looks = 1;

        void copyFrom(Book other) {
            System.arraycopy(other.tape, 0, tape, 0, TAPE);
            tapeSize = other.tapeSize;
            for (int s = 0; s < SORTS; s++) {
                sorts[s] = other.sorts[s];
            }
            sortCount = other.sortCount;
            for (int t = 0; t < THINGS; t++) {
                copyThing(other, t);
            }
            thingCount = other.thingCount;
            for (int p = 0; p < PLANS; p++) {
                plans[p] = other.plans[p];
                rowSize[p] = other.rowSize[p];
                System.arraycopy(other.rows[p], 0, rows[p], 0, ROW_DAYS);
            }
            planCount = other.planCount;
            now = other.now;
            looks = other.looks;
        }

        private void copyThing(Book other, int t) {
            sortOf[t] = other.sortOf[t];
            place[t] = other.place[t];
            known[t] = other.known[t];
            since[t] = other.since[t];
            shownWell[t] = other.shownWell[t];
            shownIll[t] = other.shownIll[t];
            well[t] = other.well[t];
        }

        boolean hasThing(int thing) {
            return thing >= 0 && thing < thingCount;
        }

        Plan planAt(int plan) {
            return plan >= 0 && plan < planCount ? plans[plan] : null;
        }

        Sort sortAt(int thing) {
            return sorts[sortOf[thing]];
        }

        int looksOrAll() {
            return Math.min(looks, thingCount);
        }

        /** The place may have been another THING's ahead of an undo: all of it is set. */
        int addThing(int sort, int where) {
            int t = thingCount;
            sortOf[t] = sort;
            place[t] = where;
            known[t] = SURE;
            since[t] = 0;
            shownWell[t] = 0;
            shownIll[t] = 0;
            well[t] = true;
            thingCount++;
            return t;
        }

        int addPlan(Plan plan) {
            int p = planCount;
            plans[p] = plan;
            rowSize[p] = 0;
            planCount++;
            return p;
        }

        void goOver() {
            for (int t = 0; t < thingCount; t++) {
                known[t] = sortAt(t).knownOver(known[t], since[t], place[t], 0);
                since[t] = Math.min(LAST_DAY, since[t] + 1);
            }
            now++;
        }

        /** What a DAY of a RUN brings; no THING turns before all have brought. */
        long lookAndPay(int set) {
            long sum = 0;
            for (int t = 0; t < thingCount; t++) {
                Sort sort = sortAt(t);
                sum += 1000L * (well[t] ? sort.last[WELL] : -sort.last[BAD_DAY]);
                if ((set >> t & 1) == 1) {
                    sum -= sort.lookCost() + lookAt(t, sort);
                }
            }
            return sum;
        }

        /** What mending costs. */
        private long lookAt(int t, Sort sort) {
            since[t] = 0;
            if (well[t]) {
                shownWell[t]++;
                known[t] = SURE;
                return 0;
            }
            shownIll[t]++;
            well[t] = sort.mends();
            known[t] = sort.mends() ? SURE : 0;
            return sort.mendCost();
        }

        void turnAll(int seed) {
            for (int t = 0; t < thingCount; t++) {
                int draw = (seed * 31 + now * 17 + t * 7 + 13) * 7 % 1000;
                int chance = sortAt(t).chance(well[t] ? ILL : HEAL, since[t], place[t]);
                if (draw < chance) {
                    well[t] = !well[t];
                }
            }
        }

        /** The way to the farthest of a set, and back. */
        int wayOf(int set) {
            int farthest = 0;
            for (int t = 0; t < thingCount; t++) {
                if ((set >> t & 1) == 1) {
                    farthest = Math.max(farthest, place[t]);
                }
            }
            return 2 * farthest;
        }
    }

    /**
     * What the days to come hold for each THING: since a LOOK ends all that was known ahead of it, a THING
     * can only be on one of three paths (as it is, seen WELL, seen ILL), some days on. Such a place on a
     * path is a spot; a DAY more is the next spot.
     */
    private static final class Outlook {
        private static final int UNKNOWN = -1;

        final Book book;
        final int[][] known = new int[THINGS][SPOTS];
        final int[][] since = new int[THINGS][SPOTS];
        final int[][] brings = new int[THINGS][SPOTS];
        /** The least wage by spots, for the one n for which a call asks. */
        private final int[][] wages = new int[THINGS][SPOTS];
        final int[] worth = new int[THINGS];
        private final long[] rest = new long[SPOTS];
        long notLooked = 0;
        long looked = 0;

        Outlook(Book book) {
            this.book = book;
        }

        void layAll(int steps) {
            for (int t = 0; t < book.thingCount; t++) {
                lay(t, steps, 0);
            }
        }

        void lay(int thing, int steps, int change) {
            Arrays.fill(wages[thing], UNKNOWN);
            known[thing][AS_IT_IS] = book.known[thing];
            since[thing][AS_IT_IS] = book.since[thing];
            layPath(thing, AS_IT_IS, steps, change);
            known[thing][SEEN_WELL] = SURE;
            since[thing][SEEN_WELL] = 0;
            layPath(thing, SEEN_WELL, steps, change);
            known[thing][SEEN_ILL] = 0;
            since[thing][SEEN_ILL] = 0;
            layPath(thing, SEEN_ILL, steps, change);
        }

        private void layPath(int thing, int from, int steps, int change) {
            Sort sort = book.sortAt(thing);
            int last = from + Math.min(steps, PATH - 1);
            for (int spot = from; spot <= last; spot++) {
                int k = known[thing][spot];
                int d = since[thing][spot];
                brings[thing][spot] = sort.bringsBy(k);
                if (spot < last) {
                    known[thing][spot + 1] = sort.knownOver(k, d, book.place[thing], change);
                    since[thing][spot + 1] = Math.min(LAST_DAY, d + 1);
                }
            }
        }

        int spotSeenIll(int thing) {
            return book.sortAt(thing).mends() ? SEEN_WELL : SEEN_ILL;
        }

        /** NOT and LOOKED for n days from a spot on; the rest is built up from the last DAY back. */
        void weigh(int thing, int from, int w, int n) {
            Sort sort = book.sortAt(thing);
            long wage = w * 1000L;
            int ill = sort.mends() ? SEEN_WELL : SEEN_ILL;
            Arrays.fill(rest, 0);
            long ahead = 0;
            for (int left = 1; left <= n; left++) {
                long behindWell = rest[SEEN_WELL + 1];
                long behindIll = rest[ill + 1] - sort.mendCost();
                int now = from + n - left;
                notLooked = brings[thing][now] + wage + ahead;
                looked = brings[thing][now] - sort.lookCost() + bothWays(known[thing][now], behindWell, behindIll);
                ahead = Math.max(notLooked, looked);
                // Of a mended one the path behind seen ILL is that behind seen WELL.
                for (int path = SEEN_WELL; path <= ill; path += PATH) {
                    for (int spot = path + 1; spot <= path + n - left; spot++) {
                        // The next spot still holds the rest of one DAY less.
                        long not = wage + rest[spot + 1];
                        long look = bothWays(known[thing][spot], behindWell, behindIll) - sort.lookCost();
                        rest[spot] = brings[thing][spot] + Math.max(not, look);
                    }
                }
            }
        }

        /** BEST of all THINGS, each alone with the wage, together. */
        long sumAlone(int w, int n) {
            long sum = 0;
            for (int t = 0; t < book.thingCount; t++) {
                weigh(t, AS_IT_IS, w, n);
                sum += Math.max(notLooked, looked);
            }
            return sum;
        }

        /** NUMBER from a spot on; one more than all wages if there is none. */
        int leastWage(int thing, int from, int n) {
            if (wages[thing][from] == UNKNOWN) {
                int w = 0;
                boolean found = false;
                while (w <= MOST_WAGE && !found) {
                    weigh(thing, from, w, n);
                    found = notLooked >= looked;
                    w += found ? 0 : 1;
                }
                wages[thing][from] = w;
            }
            return wages[thing][from];
        }

        void weighAll(int n) {
            for (int t = 0; t < book.thingCount; t++) {
                worth[t] = leastWage(t, AS_IT_IS, n);
            }
        }

        int worthOf(int set) {
            int sum = 0;
            for (int t = 0; t < book.thingCount; t++) {
                sum += (set >> t & 1) * worth[t];
            }
            return sum;
        }

        int worthiest() {
            int found = 0;
            for (int t = 1; t < book.thingCount; t++) {
                if (worth[t] > worth[found]) {
                    found = t;
                }
            }
            return found;
        }

        int worthiestWith(int thing, int n, int change) {
            lay(thing, n, change);
            worth[thing] = leastWage(thing, AS_IT_IS, n);
            return worthiest();
        }

        /** As many as are looked at, of the greatest worth, of like ones the least. */
        int worthiestSet() {
            int set = 0;
            for (int i = 0; i < book.looksOrAll(); i++) {
                int found = NONE;
                for (int t = 0; t < book.thingCount; t++) {
                    if ((set >> t & 1) == 0 && (found < 0 || worth[t] > worth[found])) {
                        found = t;
                    }
                }
                set |= found < 0 ? 0 : 1 << found;
            }
            return set;
        }
    }

    /**
     * What some days bring, with both ways of each LOOK gone on with: by a PLAN, a ROUND, or at best.
     * Whoever asks has laid the outlook for as many days.
     */
    private static final class Tree {
        private static final int MOST_DAYS = 3, MOST_SETS = 56;

        private final Outlook outlook;
        private final Book book;
        /** The spots of all THINGS on each DAY of the way that is gone now. */
        private final int[][] spots = new int[ROW_DAYS + 1][THINGS];
        private Plan plan = null;
        private final int[] row = new int[ROUND_DAYS];
        private int rowSize = 0;
        private final int[] sets = new int[MOST_SETS];
        private int setCount = 0;
        private int days = 0;
        int firstSet = 0;
        final int[] bestRow = new int[ROUND_DAYS];

        Tree(Outlook outlook) {
            this.outlook = outlook;
            book = outlook.book;
        }

        private void begin(int n) {
            Arrays.fill(spots[0], AS_IT_IS);
            days = Math.min(n, MOST_DAYS);
        }

        long meanOf(Plan by, int n) {
            plan = by;
            begin(n);
            return fromDay(0);
        }

        long greatestMean(int n) {
            plan = null;
            rowSize = 0;
            begin(n);
            gatherSets();
            return fromDay(0);
        }

        /** All sets of as many THINGS as are looked at, the least first. */
        private void gatherSets() {
            int size = book.looksOrAll();
            setCount = 0;
            for (int set = 0; set < 1 << book.thingCount; set++) {
                if (Integer.bitCount(set) == size && setCount < MOST_SETS) {
                    sets[setCount] = set;
                    setCount++;
                }
            }
        }

        long greatestRound(int n) {
            plan = null;
            rowSize = Math.max(1, Math.min(n, ROUND_DAYS));
            begin(ROUND_DAYS);
            int all = 1;
            for (int i = 0; i < rowSize; i++) {
                all *= book.thingCount;
            }
            long greatest = NO;
            for (int number = 0; number < all; number++) {
                spellRow(number);
                long mean = fromDay(0);
                if (mean > greatest) {
                    greatest = mean;
                    System.arraycopy(row, 0, bestRow, 0, rowSize);
                }
            }
            return greatest;
        }

        /** Rows are counted with the last THING changing first: so the least row comes first. */
        private void spellRow(int number) {
            int left = number;
            for (int i = rowSize - 1; i >= 0 && book.thingCount > 0; i--) {
                row[i] = left % book.thingCount;
                left /= book.thingCount;
            }
        }

        /** What comes from a DAY on. The DAY rises with each call and ends it. */
        private long fromDay(int day) {
            if (day >= days) {
                return 0;
            }
            long sum = 0;
            for (int t = 0; t < book.thingCount; t++) {
                sum += outlook.brings[t][spots[day][t]];
            }
            if (plan != null) {
                return sum + behindLooks(day, plan.chosen(outlook, spots[day], book.now + day));
            }
            if (rowSize > 0) {
                return sum + behindLooks(day, 1 << row[day % rowSize]);
            }
            return sum + behindBestLooks(day);
        }

        private long behindBestLooks(int day) {
            long greatest = NO;
            for (int i = 0; i < setCount; i++) {
                long mean = behindLooks(day, sets[i]);
                if (mean > greatest) {
                    greatest = mean;
                    firstSet = day == 0 ? sets[i] : firstSet;
                }
            }
            return greatest;
        }

        /** What comes once the set is looked at; each call takes one THING from the set, so it ends. */
        private long behindLooks(int day, int set) {
            if (set == 0) {
                return behindDay(day);
            }
            int t = Integer.numberOfTrailingZeros(set);
            int others = set & set - 1;
            Sort sort = book.sortAt(t);
            int spot = spots[day][t];
            int known = outlook.known[t][spot];
            long well = 0;
            long ill = 0;
            if (day == days - 1) {
                // Nothing of what the last DAY's LOOKS show is used any more: both ways are one.
                well = behindLooks(day, others);
                ill = well;
            } else {
                if (known > 0) {
                    spots[day][t] = SEEN_WELL;
                    well = behindLooks(day, others);
                }
                if (known < SURE) {
                    spots[day][t] = outlook.spotSeenIll(t);
                    ill = behindLooks(day, others);
                }
                spots[day][t] = spot;
            }
            return bothWays(known, well, ill - sort.mendCost()) - sort.lookCost();
        }

        private long behindDay(int day) {
            if (day >= days - 1) {
                return 0;
            }
            goOver(day);
            return fromDay(day + 1);
        }

        private void goOver(int day) {
            for (int t = 0; t < book.thingCount; t++) {
                spots[day + 1][t] = spots[day][t] + 1;
            }
        }

        /** JUDGED: the first DAY on which other THINGS were more worth a LOOK. */
        int firstOutdone(Plan told, int n) {
            begin(n);
            for (int day = 0; day < n && day < ROW_DAYS; day++) {
                int set = told.chosen(outlook, spots[day], book.now + day);
                for (int t = 0; t < book.thingCount; t++) {
                    outlook.worth[t] = SURE - outlook.known[t][spots[day][t]];
                }
                if (outlook.worthOf(outlook.worthiestSet()) > outlook.worthOf(set)) {
                    return day;
                }
                showLikely(day, set);
                goOver(day);
            }
            return NO_ANSWER;
        }

        private void showLikely(int day, int set) {
            for (int t = 0; t < book.thingCount; t++) {
                if ((set >> t & 1) == 1) {
                    boolean well = outlook.known[t][spots[day][t]] >= SURE / 2;
                    spots[day][t] = well ? SEEN_WELL : outlook.spotSeenIll(t);
                }
            }
        }
    }

    /** KIND 0. What the others do otherwise, they say themselves. */
    private static class Plan {
        final int i;
        final int v;

        Plan(int i, int v) {
            this.i = i;
            this.v = v;
        }

        /** How many days on it asks the outlook. */
        int daysAhead() {
            return 0;
        }

        /** WHOM, with the THINGS at these spots. */
        int chosen(Outlook outlook, int[] spots, int day) {
            for (int t = 0; t < outlook.book.thingCount; t++) {
                outlook.worth[t] = worthOf(outlook, t, spots[t]);
            }
            return outlook.worthiestSet();
        }

        /** With all worth the same, those of the least numbers are chosen. */
        int worthOf(Outlook outlook, int thing, int spot) {
            return 0;
        }

        /** THE TRACE: how many there were, then the first of them. */
        static void began(int[] bodies, int body) {
            bodies[0]++;
            if (bodies[0] <= TRACE_KEPT) {
                bodies[bodies[0]] = body;
            }
        }

        int means(int x, int[] bodies) {
            began(bodies, 1);
            return x + i;
        }

        int rows(int x, int[] bodies) {
            began(bodies, 2);
            return means(x, bodies) - v;
        }

        int ends(int x, int[] bodies) {
            began(bodies, 3);
            return rows(x, bodies) * 2;
        }
    }

    /** KIND 1. */
    private static final class Numbered extends Plan {
        Numbered(int i, int v) {
            super(i, v);
        }

        int daysAhead() {
            return 1 + v % 3;
        }

        int worthOf(Outlook outlook, int thing, int spot) {
            return outlook.leastWage(thing, spot, daysAhead());
        }

        int means(int x, int[] bodies) {
            began(bodies, 11);
            return super.means(x * 3, bodies);
        }
    }

    /** KIND 2. */
    private static class Turn extends Plan {
        Turn(int i, int v) {
            super(i, v);
        }

        int chosen(Outlook outlook, int[] spots, int day) {
            int all = outlook.book.thingCount;
            int set = 0;
            for (int n = 0; n < outlook.book.looksOrAll() && all > 0; n++) {
                set |= 1 << (beginning(outlook.book.looks, day) + n) % all;
            }
            return set;
        }

        int beginning(int looks, int day) {
            return day * looks + v;
        }

        int rows(int x, int[] bodies) {
            began(bodies, 21);
            return super.rows(x, bodies) ^ 5;
        }
    }

    /** KIND 3. */
    private static class Near extends Plan {
        Near(int i, int v) {
            super(i, v);
        }

        int worthOf(Outlook outlook, int thing, int spot) {
            return SURE - outlook.known[thing][spot];
        }

        int ends(int x, int[] bodies) {
            began(bodies, 31);
            return -super.ends(x, bodies);
        }
    }

    /** KIND 4. */
    private static final class Drawn extends Turn {
        Drawn(int i, int v) {
            super(i, v);
        }

        int beginning(int looks, int day) {
            return (day * 31 + v * 17) % 97;
        }

        int ends(int x, int[] bodies) {
            began(bodies, 41);
            return super.ends(x + 1, bodies) + means(2, bodies);
        }
    }

    /** KIND 5. */
    private static final class Far extends Near {
        Far(int i, int v) {
            super(i, v);
        }

        int worthOf(Outlook outlook, int thing, int spot) {
            return outlook.since[thing][spot];
        }

        int rows(int x, int[] bodies) {
            began(bodies, 51);
            return super.rows(x, bodies) ^ i;
        }
    }

    /** KIND 6. Its ROW stands in the book, so that THE IMAGE has it. */
    private static final class Told extends Plan {
        Told(int i, int v) {
            super(i, v);
        }

        int chosen(Outlook outlook, int[] spots, int day) {
            Book book = outlook.book;
            int size = book.rowSize[i];
            if (size == 0) {
                return 0;
            }
            int set = book.rows[i][day % size];
            for (int extra = Integer.bitCount(set) - book.looks; extra > 0; extra--) {
                set &= ~Integer.highestOneBit(set);
            }
            return set;
        }

        int means(int x, int[] bodies) {
            began(bodies, 61);
            return super.means(x, bodies) + v;
        }
    }
}
