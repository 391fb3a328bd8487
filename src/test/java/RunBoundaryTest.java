import java.util.function.Supplier;

/** The boundary cases of RUNS, ROUNDS, WAYS and EDGES (term 4, promises 21 to 24), a test for each sentence. */
public final class RunBoundaryTest {
    private static final Due due = new Due();
    private static final Refused refused = new Refused(due);
    private static final int MIN = Integer.MIN_VALUE, MAX = Integer.MAX_VALUE;
    private static final int PLAN = 0, TURN = 2, TOLD = 6;

    /** THINGS of a SORT, and a PLAN that looks at none. */
    private static GateWatch unseen(String sort, int things) {
        GateWatch x = Due.with(sort, things);
        x.plan(TOLD, 0);
        return x;
    }

    private static GateWatch richOnDay(int day) {
        GateWatch x = Refused.rich();
        go(x, day - 6);
        return x;
    }

    private static void go(GateWatch x, int days) {
        for (int left = days; left > 0; left -= 20) {
            x.days(Math.min(20, left));
        }
    }

    // ---- term 4: a run

    /** On DAY 0 of THING 0 the DRAW of seed 677 is 0, that of seed 124 is 999. */
    private static void drawBelow() {
        due.sentence("term 4", "WELL becomes ILL, if the DRAW is below ILL");
        String both = ";well 20;bad 30";
        due.is("0 isn't below 0", unseen("ill 0 k=0" + both, 1).run(0, 2, 677), 40000);
        due.is("0 is below 1", unseen("ill 1 k=0" + both, 1).run(0, 2, 677), 20000 - 30000);
        due.is("999 isn't below 999", unseen("ill 999 k=0" + both, 1).run(0, 2, 124), 40000);
        due.is("999 is below 1000", unseen("ill 999 k=0;ill 1 k=0" + both, 1).run(0, 2, 124), 20000 - 30000);
        due.sentence("term 4", "ILL becomes WELL, if it is below HEAL");
        String[] heals = {"heal 0 k=0", "heal 1 k=0", "heal 999 k=0", "heal 999 k=0;heal 1 k=0"};
        for (int i = 0; i < 4; i++) {
            GateWatch x = unseen(heals[i] + both, 1);
            x.seen(0, false);
            due.is(heals[i], x.run(0, 2, i < 2 ? 677 : 124), i % 2 == 0 ? -60000 : -30000 + 20000);
        }
    }

    private static void drawOf() {
        due.sentence("term 4", "DRAW: (SEED times 31 and DAY times 17 and THING times 7 and 13) times 7 modulo 1000 (SEED 0 .. 999)");
        int[][] asked = {{0, 0, 0}, {1, 0, 0}, {999, 0, 0}, {0, 1, 0}, {0, 0, 1}, {0, 0, 7}, {999, 997, 7}, {500, 58, 3}};
        for (int[] a : asked) {
            int draw = (a[0] * 31 + a[1] * 17 + a[2] * 7 + 13) * 7 % 1000;
            for (int more = 0; more <= 1; more++) {
                GateWatch x = unseen("ill " + (draw + more) + " k=" + 10 * a[2] + ";bad 9", 8);
                go(x, a[1]);
                due.is("seed " + a[0] + ", DAY " + a[1] + ", THING " + a[2] + ", ILL " + (draw + more),
                    x.run(0, 2, a[0]), -9000 * more);
            }
        }
    }

    private static void eachTurnsOnce() {
        due.sentence("term 4", "then each THING .. changes: WELL becomes ILL ..; ILL becomes WELL");
        GateWatch x = unseen("ill 999 k=0;ill 1 k=0;heal 999 k=0;heal 1 k=0;well 20;bad 30", 1);
        due.is("once a DAY, there and back", x.run(0, 5, 0), 3 * 20000 - 2 * 30000);
    }

    private static void aheadOfThat() {
        due.sentence("term 4", "the DAY brings, of each THING, well or bad (times 1000) by what it is ahead of that, and costs");
        GateWatch x = Due.with(Due.STEADY, 2);
        x.plan(PLAN, 0);
        x.seen(0, false);
        due.is("mended, but bad ahead of it", x.run(0, 1, 0), -30000 + 20000 - 5000 - 7000);
        due.is("mending is paid once", x.run(0, 1, 0), 40000 - 5000);
        GateWatch y = Due.with("ill 999 d=0;ill 1 d=0;well 20;bad 30;look 5;mend 7", 1);
        y.plan(PLAN, 0);
        due.is("mended, then ILL by the DAY's end, again and again", y.run(0, 3, 0), 15000 - 42000 - 42000);
    }

    private static void dAtTheEnd() {
        due.sentence("term 4", "d as ahead of the DAY's end; of one looked at 0");
        GateWatch looked = Due.with("ill 999 d=0;ill 1 d=0;bad 30", 1);
        looked.plan(PLAN, 0);
        looked.plan(TOLD, 0);
        looked.days(1);
        due.is("unseen: d 1", looked.run(1, 1, 0), 0);
        due.is("unseen: d 2, it hasn't turned", looked.run(1, 1, 0), 0);
        due.is("looked at: d 0", looked.run(0, 1, 0), 0);
        due.is("so it has turned", looked.run(1, 1, 0), -30000);
        GateWatch ahead = unseen("ill 999 d=1;ill 1 d=1;bad 30", 1);
        due.is("d 0, 1: ahead of the DAY's end", ahead.run(0, 2, 0), 0);
        due.is("then it has turned", ahead.run(0, 1, 0), -30000);
    }

    private static void whomOnEach() {
        due.sentence("term 4", "each DAY: WHOM is looked at, and shows what it is");
        GateWatch x = Due.with(Due.STEADY, 3);
        x.plan(TURN, 1);
        x.seen(0, false);
        due.is("3 DAYS: 1, 2, 0", x.run(0, 3, 0), 3 * (40000 - 30000) - 3 * 5000 - 7000);
        for (int t = 0; t < 3; t++) {
            due.is("of(" + t + ", 4)", x.of(t, 4), t == 0 ? 0 : 1);
            due.is("of(" + t + ", 5)", x.of(t, 5), t == 0 ? 1 : 0);
            due.is("of(" + t + ", 3)", x.of(t, 3), t == 0 ? 1 : 4 - t);
        }
    }

    private static void countsInAll() {
        due.sentence("term 4", "COUNTS of a THING: LOOKS that showed WELL, ILL, in all runs");
        GateWatch x = Due.with("bad 1", 2);
        x.plan(PLAN, 0);
        due.is("none as it comes", x.of(0, 4) + x.of(0, 5), 0);
        x.run(0, 3, 0);
        x.seen(0, false);
        x.mean(0, 3);
        x.run(0, 2, 0);
        x.seen(0, true);
        x.run(0, 30, 0);
        due.is("of WELL", x.of(0, 4), 33);
        due.is("of ILL", x.of(0, 5), 2);
        due.is("of one not looked at", x.of(1, 4) + x.of(1, 5), 0);
    }

    // ---- term 4: rounds

    private static void roundRows() {
        due.sentence("term 4", "ROUND of n (1 .. 3): of all rows of n THINGS (looked at one each DAY, from NOW on, again and again)");
        GateWatch x = Due.with(Due.STEADY, 3);
        x.seen(2, false);
        // Mended on the first DAY: 10 less 12, then 60 less 5 twice; whoever is looked at then.
        for (int n = 1; n <= 3; n++) {
            due.is("round(" + n + ", -1)", x.round(n, -1), -2000 + 55000 + 55000);
            due.is("round(" + n + ", 0)", x.round(n, 0), 2);
        }
        x.seen(1, false);
        // The worst two, one after the other; a row of two begins again on the third DAY.
        due.is("a row of one", x.round(1, -1), -40000 - 12000 + 2 * (10000 - 5000));
        due.is("a row of two", x.round(2, -1), -40000 - 12000 + 10000 - 12000 + 60000 - 5000);
        due.is("a row of three", x.round(3, -1), -40000 - 12000 + 10000 - 12000 + 60000 - 5000);
        x.looks(3);
        due.is("one each DAY, with LOOKS 3, too", x.round(3, -1), 1000);
        x.days(1);
        due.is("from NOW on", x.round(2, -1), 1000);
        x.seen(0, false);
        due.is("all ILL: a row of one", x.round(1, -1), -90000 - 12000 + 2 * (-40000 - 5000));
        due.is("all ILL: a row of two", x.round(2, -1), -90000 - 12000 - 40000 - 12000 + 10000 - 5000);
        due.is("all ILL: a row of three", x.round(3, -1), -90000 - 12000 - 40000 - 12000 + 10000 - 5000);
        thirdOfRow();
    }

    /** THING 0 is WELL and costs nothing: with a row of three it can be looked at on the last DAY alone. */
    private static void thirdOfRow() {
        GateWatch x = Due.with("well 20;bad 30", 1);
        Due.sort(x, Due.STEADY);
        x.thing(1, 0);
        x.thing(1, 0);
        x.seen(1, false);
        x.seen(2, false);
        due.is("a row of two", x.round(2, -1), -40000 - 12000 + 10000 - 12000 + 60000 - 5000);
        due.is("a row of three", x.round(3, -1), -40000 - 12000 + 10000 - 12000 + 60000);
        due.is("the first", x.round(3, 0), 1);
        due.is("the second", x.round(3, 1), 2);
        due.is("the third", x.round(3, 2), 0);
    }

    private static void leastRow() {
        due.sentence("term 4", "of several the least row");
        GateWatch x = Due.with(Due.STEADY, 8);
        for (int n = 1; n <= 3; n++) {
            for (int i = 0; i < n; i++) {
                due.is("all WELL: round(" + n + ", " + i + ")", x.round(n, i), 0);
            }
        }
        x.seen(7, false);
        x.seen(6, false);
        int[][] rows = {{6}, {6, 7}, {6, 7, 0}};
        for (int n = 1; n <= 3; n++) {
            for (int i = 0; i < n; i++) {
                due.is("two ILL: round(" + n + ", " + i + ")", x.round(n, i), rows[n - 1][i]);
            }
        }
        due.is("of one THING", Due.with(Due.STEADY, 1).round(3, 2), 0);
        due.is("of one THING", Due.with(Due.STEADY, 1).round(3, -1), 45000);
    }

    // ---- term 4: ways

    /** At 0, 10, 49, 50 and 99; all are seen ILL, so that their NUMBERS by 2 are alike, 38. */
    private static GateWatch along() {
        GateWatch x = Due.with(Due.STEADY, 0);
        int[] places = {50, 10, 99, 0, 49};
        for (int t = 0; t < 5; t++) {
            x.thing(0, places[t]);
            x.seen(t, false);
        }
        return x;
    }

    private static void wayNoMore() {
        due.sentence("term 4", "from PLACE 0 along the wall as far as the farthest THING that is looked at, and back .. no more than b");
        int[][] asked = {{0, 8, 8, 8}, {19, 8, 8, 8}, {20, 2, 10, 10}, {97, 2, 10, 10}, {98, 2, 10, 26}, {99, 2, 10, 26},
            {100, 1, 3, 11}, {197, 1, 3, 11}, {198, 1, 3, 7}, {200, 1, 3, 7}};
        for (int[] a : asked) {
            GateWatch x = along();
            for (int n = 1; n <= 3; n++) {
                x.looks(n);
                due.is("tour(" + a[0] + ", 2), LOOKS " + n, x.tour(a[0], 2), a[n]);
            }
        }
        GateWatch far = Due.with(Due.STEADY, 0);
        far.thing(0, 1);
        far.seen(0, false);
        due.is("a way of 2, b 1", far.tour(1, 2), 0);
        due.is("a way of 2, b 2", far.tour(2, 2), 1);
    }

    private static void looksOrFewer() {
        due.sentence("term 4", "the set of LOOKS THINGS or fewer for which that is no more than b, with the greatest NUMBERS "
            + "(by n; -5 counts as 201) together; of several the least as bits");
        GateWatch x = Due.with(Due.STEADY, 5);
        x.looks(3);
        due.is("all NUMBERS are 0: nobody", x.tour(200, 2), 0);
        x.seen(3, false);
        due.is("one is enough", x.tour(200, 2), 8);
        x.seen(4, false);
        due.is("two are enough", x.tour(200, 2), 24);
        due.is("one within the way", x.tour(79, 2), 8);
        x.seen(1, false);
        due.is("three", x.tour(200, 2), 26);
        x.seen(2, false);
        due.is("three of four, the least", x.tour(200, 2), 14);
        x.looks(1);
        due.is("one of four, the least", x.tour(200, 2), 2);
        due.is("by n 1 nobody", x.tour(200, 1), 0);
        GateWatch fewer = Due.with(Due.STEADY, 2);
        fewer.seen(0, false);
        fewer.seen(1, false);
        fewer.looks(3);
        due.is("of fewer all", fewer.tour(200, 2), 3);
        due.is("of no THINGS", new GateWatch().tour(200, 8), 0);
        GateWatch one = Due.with("well 6;bad 7;look 5;mend 7", 2);
        one.seen(1, false);
        due.is("a NUMBER of 1", one.number(1, 2), 1);
        due.is("1 is more than nobody's 0", one.tour(200, 2), 2);
    }

    /** By two DAYS the NUMBERS are well and bad, less 12: 200; 201, which is none; 199. */
    private static void noneCounts() {
        due.sentence("term 4", "(by n; -5 counts as 201)");
        GateWatch x = new GateWatch();
        int[] bads = {112, 113, 500, 111};
        for (int s = 0; s < 4; s++) {
            Due.sort(x, "well 100;bad " + bads[s] + ";look 5;mend 7");
            x.thing(s, 10 * s);
            x.seen(s, false);
        }
        due.is("number(1, 2)", x.number(1, 2), -5);
        due.is("ahead of 200; all such are alike", x.tour(200, 2), 2);
        x.looks(2);
        due.is("two such", x.tour(200, 2), 6);
        due.is("two within the way: 200 and 201", x.tour(39, 2), 3);
        x.looks(3);
        due.is("200 ahead of 199", x.tour(200, 2), 7);
        x.seen(0, true);
        due.is("without the first", x.tour(200, 2), 14);
    }

    // ---- term 4: edges

    /** THINGS seen ILL whose NUMBER by 2 is 38 less a twentieth of ill, rounded up. */
    private static GateWatch ills(int ill, int things) {
        GateWatch x = Due.with("ill " + ill + " k<100;" + Due.STEADY, things);
        for (int t = 0; t < things; t++) {
            x.seen(t, false);
        }
        return x;
    }

    /** The same whose NUMBER by 2 is 13 less a fiftieth of ill, rounded up. */
    private static GateWatch slow(int ill) {
        GateWatch x = Due.with("ill " + ill + " k<100;well 10;bad 10;look 1;mend 6", 2);
        x.seen(0, false);
        x.seen(1, false);
        return x;
    }

    private static void changeAtMost() {
        due.sentence("term 4", "the least change (1 .. 30, ..); 0: none up to 30");
        due.is("1 more", ills(119, 2).edge(0, 2), 1);
        due.is("1 less", ills(100, 2).edge(1, 2), -1);
        due.is("29 more", slow(121).edge(0, 2), 29);
        due.is("30 more", slow(120).edge(0, 2), 30);
        due.is("31 more would be", slow(119).edge(0, 2), 0);
        due.is("29 less", slow(128).edge(1, 2), -29);
        due.is("30 less", slow(129).edge(1, 2), -30);
        due.is("31 less would be", slow(130).edge(1, 2), 0);
    }

    private static void staysWithin() {
        due.sentence("term 4", "added to its ILL, 0 to 1000 stays");
        due.is("below 0 the NUMBER would be greater", ills(0, 2).edge(1, 2), 0);
        due.is("0 itself", ills(1, 2).edge(1, 2), 0);
        due.is("to 0, and no further", ills(20, 2).edge(1, 2), -1 + 0 * 20);
        // Found by trying many: above 1000 the NUMBER of THING 1 would be 1, by 17 more.
        GateWatch x = Due.with("ill 999 k<100;ill 1 k<100;heal 998 k<100;well 74;bad 60;look 0;mend 2", 2);
        x.seen(1, false);
        due.is("above 1000", x.edge(1, 3), 0);
        // The same by 1 more, of THING 0.
        GateWatch y = Due.with("ill 999 k<100;ill 1 k<100;heal 931 d<1;well 87;bad 131;look 1", 2);
        y.days(3);
        due.is("above 1000", y.edge(0, 3), 0);
        // What all ill come to together is 1000 at most; the change is of that. Then the NUMBER is 0, with 999 it is 1.
        String rest = " k<100;well 999;bad 999;mend 1";
        for (int more : new int[] {1, 2, 999}) {
            GateWatch z = Due.with("ill 999 k<100;ill " + more + rest, 2);
            z.seen(0, false);
            z.seen(1, false);
            due.is("1000 less 1 is enough", z.edge(1, 2), -1);
        }
        GateWatch none = Due.with(Due.STEADY, 2);
        none.seen(0, false);
        none.seen(1, false);
        due.is("20 more of no ill", none.edge(0, 2), 20);
        due.is("no less of no ill", none.edge(1, 2), 0);
    }

    /** The same, by the NUMBERS of THINGS of other SORTS: one object for each change. */
    private static void byNumbers() {
        due.sentence("term 4", "with which another THING has the greatest NUMBER (of like ones the least) than as it is");
        String[] rests = {";well 20;bad 30;look 5;mend 7", ";heal 998 k<100;well 74;bad 60;look 0;mend 2",
            ";heal 300 d<2;well 9;bad 50;look 1"};
        int[] ills = {0, 15, 110, 430, 985, 1000};
        for (int i = 0; i < 18; i++) {
            for (int seen = 0; seen < 4; seen++) {
                int ill = ills[i % 6];
                GateWatch x = changed(ill, ill, rests[i / 6], seen);
                for (int t = 0; t < 2; t++) {
                    due.is("ILL " + ill + rests[i / 6] + ", seen " + seen + ", edge(" + t + ", 3)", x.edge(t, 3),
                        leastChange(ill, rests[i / 6], seen, t));
                }
            }
        }
    }

    private static GateWatch changed(int ill0, int ill1, String rest, int seen) {
        GateWatch x = new GateWatch();
        for (int t = 0; t < 2; t++) {
            int ill = Math.max(0, Math.min(1000, t == 0 ? ill0 : ill1));
            Due.sort(x, "ill " + Math.min(999, ill) + " k<100;ill " + (ill - Math.min(999, ill)) + " k<100" + rest);
            x.thing(t, 0);
            x.seen(t, (seen >> t & 1) == 0);
        }
        return x;
    }

    private static int leastChange(int ill, String rest, int seen, int thing) {
        GateWatch as = changed(ill, ill, rest, seen);
        boolean second = as.number(1, 3) > as.number(0, 3);
        for (int size = 1; size <= 30; size++) {
            for (int change = -size; change <= size; change += 2 * size) {
                int more = thing == 0 ? ill + change : ill;
                GateWatch x = changed(more, thing == 0 ? ill : ill + change, rest, seen);
                if (x.number(1, 3) > x.number(0, 3) != second) {
                    return change;
                }
            }
        }
        return 0;
    }

    /** By the cuts alone the NUMBER is 1 with ill 48 and 62, and 0 with all others near 55. */
    private static void lessFirst() {
        due.sentence("term 4", "either way, less first");
        GateWatch x = Due.with("ill 55 k<100;well 4;bad 17;look 0", 2);
        x.days(1);
        due.is("7 less ahead of 7 more", x.edge(1, 3), -7);
        due.is("the first stays the first", x.edge(0, 3), 0);
    }

    private static void leastOfLike() {
        due.sentence("term 4", "the greatest NUMBER (of like ones the least)");
        GateWatch x = ills(110, 3);
        // All are 33; 34 with 99, 32 with 120.
        due.is("THING 0 less good: THING 1 is the first of like ones", x.edge(0, 2), 10);
        due.is("THING 1 better", x.edge(1, 2), -11);
        due.is("THING 2 better", x.edge(2, 2), -11);
        GateWatch y = Due.with("ill 110 k=0;ill 100 k>0;" + Due.STEADY, 2);
        y.seen(0, false);
        y.seen(1, false);
        // 33 and 33: alike isn't enough for THING 1.
        due.is("THING 1 is 33, too", y.edge(1, 2), -1);
        GateWatch z = Due.with("ill 90 k=0;ill 110 k>0;" + Due.STEADY, 2);
        z.seen(0, false);
        z.seen(1, false);
        // 34 and 33: at 99 they are alike, at 79 THING 1 is ahead.
        due.is("34, too, isn't enough", z.number(0, 2) * 100 + z.number(1, 2), 3433);
        due.is("35 would be, 31 less", z.edge(1, 2), 0);
        due.is("33, too, isn't less", z.edge(0, 2), 30);
    }

    // ---- promises 21 to 24

    private static void run() {
        due.sentence("promise 21", "A RUN, n 1 .. 30: what it brought. NO: plan, n, seed");
        due.is("run(0, 1, 0)", unseen("well 1", 1).run(0, 1, 0), 1000);
        due.is("run(0, 30, 0)", unseen("well 1", 1).run(0, 30, 0), 30000);
        due.is("run(0, 1, 999)", unseen("well 1", 1).run(0, 1, 999), 1000);
        due.is("of no THINGS", unseen("well 1", 0).run(0, 30, 999), 0);
        for (int plan : new int[] {8, -1, 12, MIN, MAX}) {
            refused.is("run(" + plan + ", 1, 0)", x -> x.run(plan, 1, 0), GateWatch.NO);
        }
        for (int n : new int[] {0, 31, -1, MIN, MAX}) {
            refused.is("run(0, " + n + ", 0)", x -> x.run(0, n, 0), GateWatch.NO);
        }
        for (int seed : new int[] {1000, -1, MIN, MAX}) {
            refused.is("run(0, 1, " + seed + ")", x -> x.run(0, 1, seed), GateWatch.NO);
        }
    }

    private static void runBeyond() {
        due.sentence("promise 21", "NO: plan, n, seed, also beyond DAY 999");
        for (int before : new int[] {0, 1, 4, 29}) {
            int n = before + 1;
            Supplier<GateWatch> late = () -> richOnDay(999 - before);
            refused.is("run(3, " + n + ", 5) on DAY " + (999 - before), late, x -> x.run(3, n, 5), GateWatch.NO);
            GateWatch x = late.get();
            if (before > 0) {
                due.is("run(3, " + before + ", 5)", x.run(3, before, 5) == GateWatch.NO ? 1 : 0, 0);
            }
            due.is("NOW", x.count(3), 999);
            due.is("run(3, 1, 5)", x.run(3, 1, 5), GateWatch.NO);
        }
    }

    private static void round() {
        due.sentence("promise 22", "NO: n, i (-1 .. n less 1), no THINGS");
        for (int n = 1; n <= 3; n++) {
            int asked = n;
            due.is("round(" + n + ", n less 1)", Due.with("well 1", 1).round(n, n - 1), 0);
            due.is("round(" + n + ", -1)", Due.with("well 1", 1).round(n, -1), 3000);
            for (int i : new int[] {n, n + 1, -2, MIN, MAX}) {
                refused.is("round(" + n + ", " + i + ")", x -> x.round(asked, i), GateWatch.NO);
            }
            refused.is("of no THINGS", () -> unseen("well 1", 0), x -> x.round(asked, -1), GateWatch.NO);
            refused.is("of no THINGS", () -> unseen("well 1", 0), x -> x.round(asked, 0), GateWatch.NO);
        }
        for (int n : new int[] {0, 4, -1, MIN, MAX}) {
            refused.is("round(" + n + ", -1)", x -> x.round(n, -1), GateWatch.NO);
            refused.is("round(" + n + ", 0)", x -> x.round(n, 0), GateWatch.NO);
        }
    }

    private static void tour() {
        due.sentence("promise 23", "TOUR, as bits, n 1 .. 8. BAD");
        GateWatch y = along();
        due.is("tour(0, 2)", y.tour(0, 2), 8);
        due.is("tour(200, 8)", y.tour(200, 8), 1);
        due.is("tour(200, 1)", y.tour(200, 1), 0);
        for (int b : new int[] {201, -1, MIN, MAX}) {
            refused.is("tour(" + b + ", 1)", x -> x.tour(b, 1), GateWatch.BAD);
        }
        for (int n : new int[] {0, 9, -1, MIN, MAX}) {
            refused.is("tour(0, " + n + ")", x -> x.tour(0, n), GateWatch.BAD);
            due.is("tour(0, " + n + ") of no THINGS", new GateWatch().tour(0, n), GateWatch.BAD);
        }
    }

    private static void edge() {
        due.sentence("promise 24", "NONE; BAD: n");
        for (int t : new int[] {3, -1, 8, MIN, MAX}) {
            refused.is("edge(" + t + ", 1)", x -> x.edge(t, 1), GateWatch.NONE);
        }
        for (int n : new int[] {0, 5, -1, MIN, MAX}) {
            refused.is("edge(0, " + n + ")", x -> x.edge(0, n), GateWatch.BAD);
        }
        due.is("n 1: all are 0", ills(100, 2).edge(1, 1), 0);
        due.is("n 4", ills(110, 2).edge(0, 4) != 0 ? 1 : 0, 1);
        due.sentence("promise 24", "STATE: there is one THING alone");
        for (int n = 1; n <= 4; n++) {
            int asked = n;
            refused.is("edge(0, " + n + ")", () -> unseen("ill 100 d=0;bad 9;mend 1", 1), x -> x.edge(0, asked), GateWatch.STATE);
        }
        due.is("of two there is an answer", ills(119, 2).edge(0, 2), 1);
        due.sentence("term 5", "REFUSALS, of several the first one told");
        refused.is("no such THING, n", x -> x.edge(3, 5), GateWatch.NONE);
        refused.is("one alone, another", () -> unseen("well 1", 1), x -> x.edge(1, 1), GateWatch.NONE);
        refused.is("one alone, n", () -> unseen("well 1", 1), x -> x.edge(0, 5), GateWatch.BAD);
    }

    private static void asksAlone() {
        due.sentence("Not promised", "Nothing is promised beyond the answers and state changes described");
        refused.is("edge(0, 4)", x -> x.edge(0, 4) > 30 ? 1 : 0, 0);
        refused.is("tour(200, 8)", x -> x.tour(200, 8) > 7 ? 1 : 0, 0);
        refused.is("round(3, 2)", x -> x.round(3, 2) > 2 ? 1 : 0, 0);
    }

    public static void main(String[] args) {
        drawBelow();
        drawOf();
        eachTurnsOnce();
        aheadOfThat();
        dAtTheEnd();
        whomOnEach();
        countsInAll();
        roundRows();
        leastRow();
        wayNoMore();
        looksOrFewer();
        noneCounts();
        changeAtMost();
        staysWithin();
        byNumbers();
        lessFirst();
        leastOfLike();
        run();
        runBeyond();
        round();
        tour();
        edge();
        asksAlone();
        due.end();
    }
}
