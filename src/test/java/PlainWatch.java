import java.util.ArrayList;
import java.util.List;

/**
 * A second GateWatch, for tests alone: the document's words one after the other, with no regard for speed or
 * for ../shared/LANGUAGE.md. It shares no code with the program, so that a slip in one shows against the other.
 */
final class PlainWatch {
    static final int NONE = -1, BAD = -2, STATE = -3, FULL = -4;
    static final long NO = Long.MIN_VALUE;
    private static final String[] WORDS = {"ill", "heal", "well", "bad", "look", "mend"};
    private static final int[] ABOVE = {-1, 0, 0, 0, 2, 3, 0};

    private static final class Stop extends RuntimeException {
        Stop() {
            super(null, null, false, false);
        }
    }

    /** Reads the text, and answers by it, in one go; with no clause asked for it only reads. */
    private static final class Reader {
        final String text;
        int at = 0;
        int d = 0;
        int k = 0;
        final int[] told = new int[6];

        Reader(String text) {
            this.text = text;
        }

        int fault() {
            try {
                clause();
                for (int n = 2; at < text.length(); n++) {
                    if (n > 10) {
                        throw new Stop();
                    }
                    sign(';');
                    clause();
                }
                return -1;
            } catch (Stop stop) {
                return at;
            }
        }

        char next() {
            return at < text.length() ? text.charAt(at) : '\uffff';
        }

        void sign(char c) {
            if (next() != c) {
                throw new Stop();
            }
            at++;
        }

        int word() {
            List<Integer> open = new ArrayList<>(List.of(0, 1, 2, 3, 4, 5));
            for (int i = 0; ; i++) {
                final int place = i;
                final char c = next();
                List<Integer> going = new ArrayList<>();
                for (int w : open) {
                    if (WORDS[w].charAt(place) == c) {
                        going.add(w);
                    }
                }
                if (going.isEmpty()) {
                    throw new Stop();
                }
                at++;
                if (going.size() == 1 && WORDS[going.get(0)].length() == place + 1) {
                    return going.get(0);
                }
                open = going;
            }
        }

        int amount() {
            if (next() == '0') {
                at++;
                return 0;
            }
            int from = at;
            while (at - from < 3 && Character.isDigit(next()) && next() < 128) {
                at++;
            }
            if (from == at) {
                throw new Stop();
            }
            return Integer.parseInt(text.substring(from, at));
        }

        void clause() {
            int w = word();
            sign(' ');
            int n = amount();
            if (w < 2) {
                sign(' ');
                if (either(0)) {
                    told[w] = Math.min(1000, told[w] + n);
                }
            } else {
                told[w] = n;
            }
        }

        boolean either(int open) {
            boolean first = both(open);
            if (next() != '|') {
                return first;
            }
            at++;
            boolean second = either(open);
            return first || second;
        }

        boolean both(int open) {
            boolean first = part(open);
            if (next() != '&') {
                return first;
            }
            at++;
            boolean second = both(open);
            return first && second;
        }

        boolean part(int open) {
            char c = next();
            if (c == '!' || c == '(') {
                if (open == 5) {
                    throw new Stop();
                }
                at++;
                if (c == '!') {
                    return !part(open + 1);
                }
                boolean inside = either(open + 1);
                sign(')');
                return inside;
            }
            if (c != 'd' && c != 'k') {
                throw new Stop();
            }
            at++;
            char by = next();
            if (by != '<' && by != '=' && by != '>') {
                throw new Stop();
            }
            at++;
            int n = amount();
            int value = c == 'd' ? d : k;
            return by == '<' ? value < n : by == '=' ? value == n : value > n;
        }
    }

    private static final class Thing {
        int sort;
        int place;
        int known = 1000000;
        int d = 0;
        boolean well = true;
        int shownWell = 0;
        int shownIll = 0;
        int change = 0;

        Thing copy() {
            Thing c = new Thing();
            c.sort = sort;
            c.place = place;
            c.known = known;
            c.d = d;
            c.well = well;
            c.shownWell = shownWell;
            c.shownIll = shownIll;
            c.change = change;
            return c;
        }
    }

    private static final class Plan {
        int kind;
        int v;
        List<Integer> row = new ArrayList<>();
    }

    private StringBuilder tape = new StringBuilder();
    private List<String> sorts = new ArrayList<>();
    private List<Thing> things = new ArrayList<>();
    private List<Plan> plans = new ArrayList<>();
    private int now = 0;
    private int looks = 1;
    private PlainWatch image = null;
    private List<Integer> trace = new ArrayList<>();

    private static boolean out(int n, int least, int most) {
        return n < least || n > most;
    }

    int feed(long w, int n) {
        if (out(n, 1, 8)) {
            return BAD;
        }
        if (tape.length() + n > 120) {
            return FULL;
        }
        for (int i = n - 1; i >= 0; i--) {
            tape.append((char) (w >> 8 * i & 255));
        }
        return tape.length();
    }

    int sort() {
        if (sorts.size() == 6) {
            return FULL;
        }
        String text = tape.toString();
        tape.setLength(0);
        int fault = new Reader(text).fault();
        if (fault >= 0) {
            return -10 - fault;
        }
        sorts.add(text);
        return sorts.size() - 1;
    }

    int told(int sort, int d, int k, int what) {
        if (out(sort, 0, sorts.size() - 1) || out(what, 0, 5)) {
            return NONE;
        }
        if (out(d, 0, 999) || out(k, 0, 99)) {
            return BAD;
        }
        return toldOf(sort, d, k, what);
    }

    private final java.util.HashMap<Long, Integer> answered = new java.util.HashMap<>();
    private int answeredSorts = 0;

    private int toldOf(int sort, int d, int k, int what) {
        if (answeredSorts != sorts.size()) {
            answered.clear();
            answeredSorts = sorts.size();
        }
        long key = ((sort * 1000L + d) * 100 + k) * 6 + what;
        Integer known = answered.get(key);
        if (known == null) {
            Reader reader = new Reader(sorts.get(sort));
            reader.d = d;
            reader.k = k;
            reader.fault();
            known = reader.told[what];
            answered.put(key, known);
        }
        return known;
    }

    int thing(int sort, int place) {
        if (out(sort, 0, sorts.size() - 1)) {
            return NONE;
        }
        if (out(place, 0, 99)) {
            return BAD;
        }
        if (things.size() == 8) {
            return FULL;
        }
        Thing t = new Thing();
        t.sort = sort;
        t.place = place;
        things.add(t);
        return things.size() - 1;
    }

    int of(int thing, int what) {
        if (out(thing, 0, things.size() - 1) || out(what, 0, 5)) {
            return NONE;
        }
        Thing t = things.get(thing);
        return new int[] {t.sort, t.place, t.known, t.d, t.shownWell, t.shownIll}[what];
    }

    private int plain(Thing t, int what) {
        return toldOf(t.sort, 0, 0, what);
    }

    private Thing over(Thing t) {
        Thing next = t.copy();
        int ill = Math.max(0, Math.min(1000, toldOf(t.sort, t.d, t.place, 0) + t.change));
        int heal = toldOf(t.sort, t.d, t.place, 1);
        long stays = (long) t.known * (1000 - ill) / 1000;
        long heals = (1000000L - t.known) * heal / 1000;
        next.known = (int) (stays + heals);
        next.d = Math.min(999, t.d + 1);
        return next;
    }

    private List<Thing> over(List<Thing> all) {
        List<Thing> next = new ArrayList<>();
        for (Thing t : all) {
            next.add(over(t));
        }
        return next;
    }

    int days(int n) {
        if (out(n, 1, 20) || now + n > 999) {
            return BAD;
        }
        for (int i = 0; i < n; i++) {
            things = over(things);
            now++;
        }
        return now;
    }

    int seen(int thing, boolean well) {
        if (out(thing, 0, things.size() - 1)) {
            return NONE;
        }
        Thing t = things.get(thing);
        int ahead = t.known;
        t.known = well ? 1000000 : 0;
        t.d = 0;
        t.well = well;
        return ahead;
    }

    private long brings(Thing t) {
        return (long) t.known * plain(t, 2) / 1000 - (1000000L - t.known) * plain(t, 3) / 1000;
    }

    /** Behind a LOOK that showed it so. */
    private Thing shown(Thing t, boolean well) {
        Thing next = t.copy();
        next.d = 0;
        next.known = well || plain(t, 5) > 0 ? 1000000 : 0;
        return next;
    }

    private long best(Thing t, int w, int n) {
        return n == 0 ? 0 : Math.max(not(t, w, n), looked(t, w, n));
    }

    private long not(Thing t, int w, int n) {
        return w * 1000L + brings(t) + best(over(t), w, n - 1);
    }

    private long looked(Thing t, int w, int n) {
        long ill = best(over(shown(t, false)), w, n - 1) - plain(t, 5) * 1000L;
        long well = best(over(shown(t, true)), w, n - 1);
        return brings(t) - plain(t, 4) * 1000L + (t.known * well + (1000000 - t.known) * ill) / 1000000;
    }

    long best(int thing, int w, int n, int what) {
        if (out(thing, 0, things.size() - 1) || out(w, 0, 200) || out(n, 1, 8) || out(what, 0, 2)) {
            return NO;
        }
        Thing t = things.get(thing);
        return what == 0 ? best(t, w, n) : what == 1 ? not(t, w, n) : looked(t, w, n);
    }

    private int number(Thing t, int n) {
        for (int w = 0; w <= 200; w++) {
            if (not(t, w, n) >= looked(t, w, n)) {
                return w;
            }
        }
        return -5;
    }

    private int counted(Thing t, int n) {
        int number = number(t, n);
        return number == -5 ? 201 : number;
    }

    int number(int thing, int n) {
        if (out(thing, 0, things.size() - 1)) {
            return NONE;
        }
        return out(n, 1, 8) ? BAD : number(things.get(thing), n);
    }

    int such(int thing, int n) {
        int number = number(thing, n);
        if (number < 0) {
            return number;
        }
        Thing t = things.get(thing);
        int so = 1;
        for (int w = number + 1; w <= 200; w++) {
            so = not(t, w, n) >= looked(t, w, n) ? so : 0;
        }
        return so;
    }

    int looks(int n) {
        if (out(n, 1, 3)) {
            return BAD;
        }
        int ahead = looks;
        looks = n;
        return ahead;
    }

    int plan(int kind, int v) {
        if (out(kind, 0, 6)) {
            return NONE;
        }
        if (out(v, 0, 99)) {
            return BAD;
        }
        if (plans.size() == 12) {
            return FULL;
        }
        Plan p = new Plan();
        p.kind = kind;
        p.v = v;
        plans.add(p);
        return plans.size() - 1;
    }

    private boolean noPlan(int plan) {
        return out(plan, 0, plans.size() - 1);
    }

    int row(int plan, int set) {
        if (noPlan(plan)) {
            return NONE;
        }
        if (set < 0 || set >= 1 << things.size()) {
            return BAD;
        }
        Plan p = plans.get(plan);
        if (p.kind != 6) {
            return STATE;
        }
        if (p.row.size() == 10) {
            return FULL;
        }
        p.row.add(set);
        return p.row.size();
    }

    private int most() {
        return Math.min(looks, things.size());
    }

    private int greatest(long[] key) {
        int set = 0;
        for (int n = 0; n < most(); n++) {
            int found = -1;
            for (int t = 0; t < key.length; t++) {
                if ((set & 1 << t) == 0 && (found == -1 || key[t] > key[found])) {
                    found = t;
                }
            }
            set |= 1 << found;
        }
        return set;
    }

    private int whom(Plan p, List<Thing> all, int day) {
        int size = all.size();
        long[] key = new long[size];
        int start = p.kind == 2 ? day * looks + p.v : (day * 31 + p.v * 17) % 97;
        int set = 0;
        switch (p.kind) {
            case 0:
                return (1 << most()) - 1;
            case 1:
            case 3:
            case 5:
                for (int t = 0; t < size; t++) {
                    Thing a = all.get(t);
                    key[t] = p.kind == 1 ? counted(a, 1 + p.v % 3) : p.kind == 3 ? 1000000 - a.known : a.d;
                }
                return greatest(key);
            case 2:
            case 4:
                for (int n = 0; n < most(); n++) {
                    set |= 1 << (start + n) % size;
                }
                return set;
            default:
                if (p.row.isEmpty()) {
                    return 0;
                }
                int told = p.row.get(day % p.row.size());
                for (int t = 0; t < size; t++) {
                    if ((told & 1 << t) != 0 && Integer.bitCount(set) < looks) {
                        set |= 1 << t;
                    }
                }
                return set;
        }
    }

    int whom(int plan) {
        return noPlan(plan) ? NONE : whom(plans.get(plan), things, now);
    }

    /** Who is looked at on a DAY by what is known; null: whoever is best. */
    private interface Chooser {
        int whom(List<Thing> all, int day);
    }

    private int bestSet;

    private long from(Chooser chooser, List<Thing> all, int day, int n) {
        if (n == 0) {
            return 0;
        }
        long sum = 0;
        for (Thing t : all) {
            sum += brings(t);
        }
        if (chooser != null) {
            return sum + behind(chooser, all, day, n, chooser.whom(all, day), 0);
        }
        long greatest = NO;
        int found = 0;
        for (int set = 0; set < 1 << all.size(); set++) {
            if (Integer.bitCount(set) == most()) {
                long mean = behind(null, all, day, n, set, 0);
                if (mean > greatest) {
                    greatest = mean;
                    found = set;
                }
            }
        }
        bestSet = found;
        return sum + greatest;
    }

    private long behind(Chooser chooser, List<Thing> all, int day, int n, int set, int thing) {
        if (thing == all.size()) {
            return from(chooser, over(all), day + 1, n - 1);
        }
        if ((set & 1 << thing) == 0) {
            return behind(chooser, all, day, n, set, thing + 1);
        }
        Thing t = all.get(thing);
        List<Thing> well = new ArrayList<>(all);
        well.set(thing, shown(t, true));
        List<Thing> ill = new ArrayList<>(all);
        ill.set(thing, shown(t, false));
        long behindWell = behind(chooser, well, day, n, set, thing + 1);
        long behindIll = behind(chooser, ill, day, n, set, thing + 1) - plain(t, 5) * 1000L;
        return -plain(t, 4) * 1000L + (t.known * behindWell + (1000000 - t.known) * behindIll) / 1000000;
    }

    long mean(int plan, int n) {
        if (noPlan(plan) || out(n, 1, 3)) {
            return NO;
        }
        Plan p = plans.get(plan);
        return from((all, day) -> whom(p, all, day), things, now, n);
    }

    long all(int n, int what) {
        if (out(n, 1, 2) || out(what, 0, 1) || things.isEmpty()) {
            return NO;
        }
        long greatest = from(null, things, now, n);
        return what == 0 ? greatest : bestSet;
    }

    long loses(int plan, int n) {
        if (noPlan(plan) || out(n, 1, 2) || things.isEmpty()) {
            return NO;
        }
        return all(n, 0) - mean(plan, n);
    }

    long bound(int n) {
        if (out(n, 1, 8)) {
            return NO;
        }
        long least = Long.MAX_VALUE;
        for (int w = 0; w <= 200; w++) {
            long sum = 0;
            for (Thing t : things) {
                sum += best(t, w, n);
            }
            least = Math.min(least, sum - w * 1000L * n * (things.size() - most()));
        }
        return least;
    }

    int judged(int plan, int n) {
        if (noPlan(plan)) {
            return NONE;
        }
        if (out(n, 1, 10)) {
            return BAD;
        }
        Plan p = plans.get(plan);
        if (p.kind != 6 || p.row.isEmpty()) {
            return STATE;
        }
        List<Thing> all = new ArrayList<>(things);
        for (int day = 0; day < n; day++) {
            int set = whom(p, all, now + day);
            for (int other = 0; other < 1 << all.size(); other++) {
                if (Integer.bitCount(other) == most() && doubt(all, other) > doubt(all, set)) {
                    return day;
                }
            }
            for (int t = 0; t < all.size(); t++) {
                if ((set & 1 << t) != 0) {
                    all.set(t, shown(all.get(t), all.get(t).known >= 500000));
                }
            }
            all = over(all);
        }
        return -5;
    }

    private static long doubt(List<Thing> all, int set) {
        long sum = 0;
        for (int t = 0; t < all.size(); t++) {
            sum += (set & 1 << t) != 0 ? 1000000 - all.get(t).known : 0;
        }
        return sum;
    }

    long run(int plan, int n, int seed) {
        if (noPlan(plan) || out(n, 1, 30) || out(seed, 0, 999) || now + n > 999) {
            return NO;
        }
        long sum = 0;
        for (int i = 0; i < n; i++) {
            int set = whom(plans.get(plan), things, now);
            for (Thing t : things) {
                sum += t.well ? plain(t, 2) * 1000L : -plain(t, 3) * 1000L;
            }
            for (int t = 0; t < things.size(); t++) {
                if ((set & 1 << t) != 0) {
                    sum -= lookAt(t);
                }
            }
            for (int t = 0; t < things.size(); t++) {
                Thing a = things.get(t);
                int draw = (seed * 31 + now * 17 + t * 7 + 13) * 7 % 1000;
                if (a.well) {
                    a.well = draw >= toldOf(a.sort, a.d, a.place, 0);
                } else {
                    a.well = draw < toldOf(a.sort, a.d, a.place, 1);
                }
            }
            things = over(things);
            now++;
        }
        return sum;
    }

    private long lookAt(int thing) {
        Thing t = things.get(thing);
        boolean mended = !t.well && plain(t, 5) > 0;
        if (t.well) {
            t.shownWell++;
        } else {
            t.shownIll++;
        }
        t.well = t.well || mended;
        t.known = t.well ? 1000000 : 0;
        t.d = 0;
        return plain(t, 4) * 1000L + (mended ? plain(t, 5) * 1000L : 0);
    }

    long round(int n, int i) {
        if (out(n, 1, 3) || out(i, -1, n - 1) || things.isEmpty()) {
            return NO;
        }
        long greatest = NO;
        int[] found = null;
        int size = things.size();
        for (int a = 0; a < size; a++) {
            for (int b = 0; b < (n > 1 ? size : 1); b++) {
                for (int c = 0; c < (n > 2 ? size : 1); c++) {
                    int[] row = {a, b, c};
                    int first = now;
                    long mean = from((all, day) -> 1 << row[(day - first) % n], things, now, 3);
                    if (mean > greatest) {
                        greatest = mean;
                        found = row;
                    }
                }
            }
        }
        return i < 0 ? greatest : found[i];
    }

    int tour(int b, int n) {
        if (out(b, 0, 200) || out(n, 1, 8)) {
            return BAD;
        }
        int[] numbers = new int[things.size()];
        for (int t = 0; t < numbers.length; t++) {
            numbers[t] = counted(things.get(t), n);
        }
        int greatest = -1;
        int found = 0;
        for (int set = 0; set < 1 << things.size(); set++) {
            int sum = 0;
            int far = 0;
            for (int t = 0; t < numbers.length; t++) {
                if ((set & 1 << t) != 0) {
                    sum += numbers[t];
                    far = Math.max(far, things.get(t).place);
                }
            }
            if (Integer.bitCount(set) <= looks && 2 * far <= b && sum > greatest) {
                greatest = sum;
                found = set;
            }
        }
        return found;
    }

    int edge(int thing, int n) {
        if (out(thing, 0, things.size() - 1)) {
            return NONE;
        }
        if (out(n, 1, 4)) {
            return BAD;
        }
        if (things.size() == 1) {
            return STATE;
        }
        int[] numbers = new int[things.size()];
        for (int t = 0; t < numbers.length; t++) {
            numbers[t] = counted(things.get(t), n);
        }
        int first = first(numbers);
        for (int change = 1; change <= 30; change++) {
            for (int way = -1; way <= 1; way += 2) {
                Thing changed = things.get(thing).copy();
                changed.change = way * change;
                numbers[thing] = counted(changed, n);
                if (first(numbers) != first) {
                    return way * change;
                }
            }
        }
        return 0;
    }

    private static int first(int[] numbers) {
        int found = 0;
        for (int t = 1; t < numbers.length; t++) {
            found = numbers[t] > numbers[found] ? t : found;
        }
        return found;
    }

    int act(int plan, int act, int x) {
        trace = new ArrayList<>();
        return noPlan(plan) || out(act, 0, 2) ? 0 : call(plan, plans.get(plan).kind, act, x);
    }

    /** An act of a plan, by the first kind from this one up that has a body. */
    private int call(int i, int kind, int act, int x) {
        int v = plans.get(i).v;
        int own = plans.get(i).kind;
        int up = ABOVE[kind];
        int body = new int[][] {{1, 2, 3}, {11, 0, 0}, {0, 21, 0}, {0, 0, 31}, {0, 0, 41}, {0, 51, 0},
            {61, 0, 0}}[kind][act];
        if (body == 0) {
            return call(i, up, act, x);
        }
        trace.add(body);
        switch (body) {
            case 1: return x + i;
            case 2: return call(i, own, 0, x) - v;
            case 3: return call(i, own, 1, x) * 2;
            case 11: return call(i, up, 0, x * 3);
            case 21: return call(i, up, 1, x) ^ 5;
            case 31: return -call(i, up, 2, x);
            case 41:
                int left = call(i, up, 2, x + 1);
                return left + call(i, own, 0, 2);
            case 51: return call(i, up, 1, x) ^ i;
            default: return call(i, up, 0, x) + v;
        }
    }

    int trace(int i) {
        return out(i, 0, Math.min(20, trace.size()) - 1) ? NONE : trace.get(i);
    }

    int as(int plan, int k) {
        if (noPlan(plan) || out(k, 0, 6)) {
            return NONE;
        }
        for (int kind = plans.get(plan).kind; kind >= 0; kind = ABOVE[kind]) {
            if (kind == k) {
                return plans.get(plan).v;
            }
        }
        return -6;
    }

    private void copyFrom(PlainWatch other) {
        tape = new StringBuilder(other.tape);
        sorts = new ArrayList<>(other.sorts);
        answered.clear();
        things = new ArrayList<>();
        for (Thing t : other.things) {
            things.add(t.copy());
        }
        plans = new ArrayList<>();
        for (Plan p : other.plans) {
            Plan c = new Plan();
            c.kind = p.kind;
            c.v = p.v;
            c.row = new ArrayList<>(p.row);
            plans.add(c);
        }
        now = other.now;
        looks = other.looks;
    }

    int image() {
        image = new PlainWatch();
        image.copyFrom(this);
        return now;
    }

    int undo() {
        if (image == null) {
            return STATE;
        }
        copyFrom(image);
        return now;
    }

    int count(int what) {
        return out(what, 0, 6) ? NONE
            : new int[] {sorts.size(), things.size(), plans.size(), now, looks, tape.length(), trace.size()}[what];
    }
}
