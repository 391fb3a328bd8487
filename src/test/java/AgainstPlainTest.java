/**
 * Long runs of calls, drawn by a seed, on the program and on PlainWatch: all answers are alike.
 * With arguments: how many runs, and the first seed.
 */
public final class AgainstPlainTest {
    /** An object is used for at most 512 calls: some are kept for what a text and the state take. */
    private static final int CALLS = 420;
    private static final String[] NAMES = {"feed", "sort", "told", "thing", "of", "days", "seen", "best", "number",
        "such", "looks", "plan", "row", "whom", "mean", "all", "loses", "bound", "judged", "run", "round", "tour",
        "edge", "act", "trace", "as", "image", "undo", "count"};
    /** How often each is called, among 1000 or so; the dear ones seldom, for PlainWatch's sake. */
    private static final int[] OFTEN = {20, 10, 30, 40, 60, 40, 40, 60, 40, 25, 30, 40, 60, 60, 50, 25, 25, 12, 40, 40,
        6, 20, 25, 60, 40, 40, 10, 10, 30};

    private long seed;
    private GateWatch x = new GateWatch();
    private PlainWatch y = new PlainWatch();
    private int[] drawn = new int[6];
    private int made = 0;

    private AgainstPlainTest(long seed) {
        this.seed = seed * 1000003 + 17;
    }

    private int draw(int below) {
        seed = seed * 6364136223846793005L + 1442695040888963407L;
        return (int) ((seed >>> 33) % below);
    }

    /** Mostly within, now and then a bit or far outside. */
    private int near(int least, int most) {
        int how = draw(40);
        if (how == 0) {
            return least - 1;
        }
        if (how == 1) {
            return most + 1;
        }
        if (how == 2) {
            return new int[] {Integer.MIN_VALUE, Integer.MAX_VALUE, -1000, 1000}[draw(4)];
        }
        if (how < 6) {
            return draw(2) == 0 ? least : most;
        }
        return least + draw(Math.max(1, most - least + 1));
    }

    private String number() {
        return String.valueOf(draw(3) == 0 ? draw(1000) : draw(2) == 0 ? draw(10) : draw(100));
    }

    private String test(int depth) {
        int how = draw(12);
        if (how == 0 && depth < 6) {
            return "!" + test(depth + 1);
        }
        if (how == 1 && depth < 6) {
            return "(" + either(depth + 1) + ")";
        }
        String small = draw(3) > 0 ? String.valueOf(draw(6)) : number();
        return (draw(3) > 0 ? "d" : "k") + "<=>".charAt(draw(3)) + small;
    }

    private String either(int depth) {
        StringBuilder text = new StringBuilder(test(depth));
        while (draw(4) == 0) {
            text.append(draw(2) == 0 ? '|' : '&').append(test(depth));
        }
        return text.toString();
    }

    /** A SORT that is worth a LOOK: dear when ill, and cheap to look at. */
    private String worthy() {
        StringBuilder text = new StringBuilder();
        text.append("ill ").append(20 + draw(400)).append(' ').append(draw(2) == 0 ? "d<" + draw(9) : "k<100");
        text.append(";ill ").append(draw(400)).append(' ').append(either(0));
        if (draw(2) == 0) {
            text.append(";heal ").append(draw(300)).append(' ').append(either(0));
        }
        text.append(";bad ").append(draw(draw(2) == 0 ? 100 : 1000)).append(";look ").append(draw(20));
        text.append(";well ").append(draw(100)).append(";mend ").append(draw(4) == 0 ? 0 : draw(60));
        return text.length() > 120 ? "well 9;bad 9" : text.toString();
    }

    private String text() {
        if (draw(2) == 0) {
            return worthy();
        }
        StringBuilder text = new StringBuilder();
        int clauses = draw(12) == 0 ? 11 : 1 + draw(8);
        for (int c = 0; c < clauses; c++) {
            String word = new String[] {"ill", "heal", "well", "bad", "look", "mend", "ill"}[draw(7)];
            text.append(c == 0 ? "" : ";").append(word).append(' ').append(number());
            if (word.equals("ill") || word.equals("heal")) {
                text.append(' ').append(either(0));
            }
        }
        if (draw(4) == 0) {
            int at = draw(text.length());
            switch (draw(4)) {
                case 0: text.setLength(at); break;
                case 1: text.deleteCharAt(at); break;
                case 2: text.setCharAt(at, (char) draw(256)); break;
                default: text.insert(at, "dk<=>!()&|; 0123456789iwhblm".charAt(draw(28)));
            }
        }
        return text.toString();
    }

    /** Each call of the program is told here. */
    private boolean alike(String call, long a, long b) {
        made++;
        if (a != b) {
            StringBuilder told = new StringBuilder(call + ":");
            for (int n : drawn) {
                told.append(' ').append(n);
            }
            System.out.println(told + " answered " + a + ", PlainWatch " + b);
        }
        return a == b;
    }

    private boolean feedText() {
        String text = text();
        boolean same = true;
        for (int i = 0; i < text.length(); i += 8) {
            String part = text.substring(i, Math.min(text.length(), i + 8));
            same &= alike("feed", x.feed(Due.packed(part), part.length()), y.feed(Due.packed(part), part.length()));
        }
        same &= alike("sort of '" + text + "'", x.sort(), y.sort());
        return same;
    }

    private int keep(int i, int n) {
        drawn[i] = n;
        return n;
    }

    private boolean call(int which) {
        int t = keep(0, near(0, y.count(1) - 1));
        int p = keep(1, near(0, y.count(2) - 1));
        int s = keep(2, near(0, y.count(0) - 1));
        int a = keep(3, 0);
        int b = keep(4, 0);
        switch (which) {
            case 0:
                long w = (long) draw(1 << 30) << 34 ^ draw(1 << 30);
                a = keep(3, near(1, 8));
                return draw(8) > 0 || alike("feed", x.feed(w, a), y.feed(w, a));
            case 1:
                return draw(4) == 0 ? alike("sort", x.sort(), y.sort()) : feedText();
            case 2:
                int d = keep(5, draw(2) == 0 ? draw(10) : near(0, 999));
                a = keep(3, near(0, 99));
                b = keep(4, near(0, 5));
                return alike("told", x.told(s, d, a, b), y.told(s, d, a, b));
            case 3:
                a = keep(3, near(0, draw(2) == 0 ? 99 : 9));
                return alike("thing", x.thing(s, a), y.thing(s, a));
            case 4:
                a = keep(3, near(0, 5));
                return alike("of", x.of(t, a), y.of(t, a));
            case 5:
                a = keep(3, draw(2) == 0 ? near(1, 3) : near(1, 20));
                return alike("days", x.days(a), y.days(a));
            case 6:
                boolean well = draw(2) == 0;
                return alike("seen", x.seen(t, well), y.seen(t, well));
            case 7:
                a = keep(3, near(0, 200));
                b = keep(4, near(1, 8));
                int what = keep(5, near(0, 2));
                return alike("best", x.best(t, a, b, what), y.best(t, a, b, what));
            case 8:
                a = keep(3, draw(5) == 0 ? near(1, 8) : near(1, 5));
                return alike("number", x.number(t, a), y.number(t, a));
            case 9:
                a = keep(3, draw(8) == 0 ? near(1, 8) : near(1, 4));
                return alike("such", x.such(t, a), y.such(t, a));
            case 10:
                a = keep(3, near(1, 3));
                return alike("looks", x.looks(a), y.looks(a));
            case 11:
                a = keep(3, near(0, 6));
                b = keep(4, near(0, 99));
                return alike("plan", x.plan(a, b), y.plan(a, b));
            case 12:
                a = keep(3, near(0, (1 << y.count(1)) - 1));
                if (draw(3) > 0) {
                    for (int i = 0; i < y.count(2); i++) {
                        p = y.as(i, 6) >= 0 ? i : p;
                    }
                    keep(1, p);
                }
                return alike("row", x.row(p, a), y.row(p, a));
            case 13:
                return alike("whom", x.whom(p), y.whom(p));
            default:
                return dearCall(which, t, p);
        }
    }

    private boolean dearCall(int which, int t, int p) {
        int a;
        int b;
        switch (which) {
            case 14:
                a = keep(3, near(1, 3));
                return alike("mean", x.mean(p, a), y.mean(p, a));
            case 15:
                a = keep(3, near(1, 2));
                b = keep(4, near(0, 1));
                return alike("all", x.all(a, b), y.all(a, b));
            case 16:
                a = keep(3, near(1, 2));
                return alike("loses", x.loses(p, a), y.loses(p, a));
            case 17:
                a = keep(3, draw(8) == 0 ? near(1, 8) : near(1, 4));
                return alike("bound", x.bound(a), y.bound(a));
            case 18:
                a = keep(3, near(1, 10));
                return alike("judged", x.judged(p, a), y.judged(p, a));
            case 19:
                a = keep(3, near(1, draw(2) == 0 ? 30 : 5));
                b = keep(4, near(0, 999));
                return alike("run", x.run(p, a, b), y.run(p, a, b));
            case 20:
                a = keep(3, near(1, 3));
                b = keep(4, near(-1, a - 1));
                return alike("round", x.round(a, b), y.round(a, b));
            case 21:
                a = keep(3, near(0, 200));
                b = keep(4, near(1, draw(8) == 0 ? 8 : 4));
                return alike("tour", x.tour(a, b), y.tour(a, b));
            case 22:
                a = keep(3, near(1, 4));
                return alike("edge", x.edge(t, a), y.edge(t, a));
            case 23:
                a = keep(3, near(0, 2));
                b = keep(4, draw(3) == 0 ? draw(Integer.MAX_VALUE) * 2 : near(-20, 20));
                return alike("act", x.act(p, a, b), y.act(p, a, b));
            case 24:
                a = keep(3, near(0, 6));
                return alike("trace", x.trace(a), y.trace(a));
            case 25:
                a = keep(3, near(0, 6));
                return alike("as", x.as(p, a), y.as(p, a));
            case 26:
                return alike("image", x.image(), y.image());
            case 27:
                return alike("undo", x.undo(), y.undo());
            default:
                a = keep(3, near(0, 6));
                return alike("count", x.count(a), y.count(a));
        }
    }

    private boolean stateAlike() {
        boolean same = true;
        for (int what = 0; what <= 6; what++) {
            same &= alike("count", x.count(what), y.count(what));
        }
        for (int t = 0; t < y.count(1); t++) {
            for (int what = 0; what <= 5; what++) {
                same &= alike("of " + t + " " + what, x.of(t, what), y.of(t, what));
            }
        }
        for (int p = 0; p < y.count(2); p++) {
            same &= alike("as of " + p, x.as(p, 0), y.as(p, 0));
        }
        return same;
    }

    private boolean alike(int calls) {
        int sum = 0;
        for (int often : OFTEN) {
            sum += often;
        }
        int sorts = draw(4);
        int things = draw(9);
        int plans = draw(8);
        for (int i = 0; made < calls; i++) {
            int at = draw(sum);
            int which = 0;
            while (at >= OFTEN[which]) {
                at -= OFTEN[which];
                which++;
            }
            if (i < 20) {
                which = i < 4 + sorts ? 1 : i < 8 + things ? 3 : i < 12 + plans ? 11 : which;
            }
            if (!call(which)) {
                System.out.println("drawn call " + i + ", " + NAMES[which]);
                return false;
            }
        }
        return stateAlike();
    }

    public static void main(String[] args) {
        int runs = args.length > 0 ? Integer.parseInt(args[0]) : 60;
        int first = args.length > 1 ? Integer.parseInt(args[1]) : 1;
        int wrong = 0;
        for (int run = first; run < first + runs; run++) {
            if (!new AgainstPlainTest(run).alike(CALLS)) {
                System.out.println("in the run of seed " + run);
                wrong++;
            }
        }
        System.out.println(runs + " runs, " + wrong + " wrong");
        if (wrong != 0) {
            System.exit(1);
        }
    }
}
