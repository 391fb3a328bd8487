import java.util.function.Supplier;

/** The boundary cases of THINGS, DAYS and ONE THING alone (terms 1 and 2, promises 5 to 11), a test for each sentence. */
public final class ThingBoundaryTest {
    private static final Due due = new Due();
    private static final Refused refused = new Refused(due);
    private static final int MIN = Integer.MIN_VALUE, MAX = Integer.MAX_VALUE;

    /** A THING of a SORT, on a DAY. */
    private static GateWatch onDay(String sort, int day) {
        GateWatch x = Due.with(sort, 1);
        go(x, day);
        return x;
    }

    private static void go(GateWatch x, int days) {
        for (int left = days; left > 0; left -= 20) {
            x.days(Math.min(20, left));
        }
    }

    /** A THING of a SORT, known to be ILL. */
    private static GateWatch ill(String sort) {
        GateWatch x = Due.with(sort, 1);
        x.seen(0, false);
        return x;
    }

    /** Seen ILL, with mending, and two DAYS left, its NUMBER is well and bad, less look and mend. */
    private static GateWatch worth(int well, int bad) {
        return ill("well " + well + ";bad " + bad + ";look 5;mend 7");
    }

    // ---- term 1

    private static void thingsAtMost() {
        due.sentence("term 1", "THINGS are numbered from 0 on, 8 at most");
        GateWatch x = Due.with("well 1", 0);
        for (int t = 0; t < 8; t++) {
            due.is("thing()", x.thing(0, 10 * t), t);
        }
        for (int t = 0; t < 8; t++) {
            due.is("of(" + t + ", 1)", x.of(t, 1), 10 * t);
        }
        due.is("a ninth", x.thing(0, 0), GateWatch.FULL);
        due.is("count(1)", x.count(1), 8);
    }

    private static void places() {
        due.sentence("term 1", "a PLACE (0 .. 99)");
        GateWatch x = Due.with("ill 1 k=0;ill 2 k=99;well 1", 0);
        due.is("thing(0, 0)", x.thing(0, 0), 0);
        due.is("thing(0, 99)", x.thing(0, 99), 1);
        x.days(1);
        due.is("by k 0", x.of(0, 2), 999000);
        due.is("by k 99", x.of(1, 2), 998000);
    }

    private static void daysAre() {
        due.sentence("term 1", "DAYS are 0 .. 999; NOW is 0 at first");
        GateWatch x = new GateWatch();
        due.is("NOW at first", x.count(3), 0);
        for (int now = 20; now <= 980; now += 20) {
            due.is("days(20)", x.days(20), now);
        }
        due.is("days(19)", x.days(19), 999);
        due.is("NOW at last", x.count(3), 999);
    }

    private static void wellAtFirst() {
        due.sentence("term 1", "Each is WELL or ILL (WELL at first), unseen. KNOWN .. 1000000 as it comes");
        GateWatch x = onDay("well 2;bad 3", 7);
        x.plan(6, 0);
        due.is("thing(0, 5)", x.thing(0, 5), 1);
        due.is("KNOWN", x.of(1, 2), 1000000);
        due.is("both are WELL", x.run(0, 1, 0), 4000);
    }

    private static void sinceItCame() {
        due.sentence("term 1", "d DAYS since it was looked at last (since it came, if never)");
        GateWatch x = onDay("ill 100 d=3;well 1", 7);
        x.thing(0, 0);
        due.is("d as it comes", x.of(1, 3), 0);
        x.days(3);
        due.is("d of one that was there", x.of(0, 3), 10);
        due.is("d since it came", x.of(1, 3), 3);
        due.is("KNOWN", x.of(1, 2), 1000000);
        x.days(1);
        due.is("KNOWN by d 3", x.of(1, 2), 900000);
        x.seen(1, true);
        due.is("d as it is seen", x.of(1, 3), 0);
        x.plan(0, 0);
        x.run(0, 1, 0);
        due.is("d behind a LOOK and a DAY", x.of(0, 3), 1);
        due.is("d behind no LOOK and a DAY", x.of(1, 3), 1);
    }

    private static void dAtMost() {
        due.sentence("term 1", "d is one more (999 at most)");
        GateWatch x = onDay("ill 500 d=999;well 10;look 5", 998);
        x.plan(6, 0);
        x.plan(0, 0);
        due.is("d", x.of(0, 3), 998);
        due.is("best(0, 0, 3, 1) on DAY 998", x.best(0, 0, 3, 1), 10000 + 10000 + 5000);
        x.days(1);
        due.is("d", x.of(0, 3), 999);
        due.is("KNOWN", x.of(0, 2), 1000000);
        // d 999 on each DAY to come: 1000000, 500000, 250000.
        due.is("best(0, 0, 3, 1)", x.best(0, 0, 3, 1), 10000 + 5000 + 2500);
        due.is("mean(0, 3)", x.mean(0, 3), 10000 + 5000 + 2500);
        due.is("days(1)", x.days(1), GateWatch.BAD);
        due.is("d", x.of(0, 3), 999);
    }

    private static void overIsCut() {
        due.sentence("term 1", "KNOWN times (1000 less ILL) by 1000 (cut), and (1000000 less KNOWN) times HEAL by 1000 (cut)");
        GateWatch x = onDay("ill 1 k<100;heal 1 k<100", 0);
        int[] known = {999000, 998002, 997004};
        for (int day = 0; day < 3; day++) {
            // On the third: 997003.998 and 1.998.
            x.days(1);
            due.is("KNOWN on DAY " + (day + 1), x.of(0, 2), known[day]);
        }
    }

    private static void overByD() {
        due.sentence("term 1", "OVER a DAY, with d as ahead of it");
        GateWatch x = onDay("ill 100 d=0;ill 300 d=1;ill 7 d=2", 0);
        x.days(1);
        due.is("by d 0", x.of(0, 2), 900000);
        x.days(1);
        due.is("by d 1", x.of(0, 2), 630000);
        x.days(1);
        due.is("by d 2", x.of(0, 2), 625590);
    }

    private static void mendAboveNone() {
        due.sentence("term 1", "if it is ILL and mend is above 0, it is mended");
        String sort = "well 3;bad 4;look 1";
        for (String none : new String[] {"", ";mend 0", ";mend 5;mend 0"}) {
            GateWatch x = ill(sort + none);
            x.plan(0, 0);
            due.is("with '" + none + "'", x.run(0, 1, 0), -4000 - 1000);
            due.is("KNOWN", x.of(0, 2), 0);
            due.is("it stays ILL", x.run(0, 1, 0), -4000 - 1000);
            due.is("best(0, 0, 2, 2)", x.best(0, 0, 2, 2), -4000 - 1000 - 4000);
        }
        GateWatch y = ill(sort + ";mend 1");
        y.plan(0, 0);
        due.is("best(0, 0, 2, 2)", y.best(0, 0, 2, 2), -4000 - 1000 - 1000 + 3000);
        due.is("with mend 1", y.run(0, 1, 0), -4000 - 1000 - 1000);
        due.is("KNOWN", y.of(0, 2), 1000000);
        due.is("WELL from then on, and mend isn't paid", y.run(0, 1, 0), 3000 - 1000);
    }

    private static void lookAtZero() {
        due.sentence("term 1", "A LOOK shows it: KNOWN is 1000000, or 0, d is 0 .. Behind all LOOKS of a DAY it goes OVER for all");
        GateWatch x = Due.with("ill 100 d=0;ill 200 d=5;heal 300 d=0;well 1", 3);
        x.plan(0, 0);
        x.looks(2);
        x.days(5);
        x.seen(1, false);
        x.days(5);
        due.is("run(0, 1, 677)", x.run(0, 1, 677), 2000 - 0);
        due.is("seen WELL, then OVER with d 0", x.of(0, 2), 900000);
        due.is("seen ILL, then OVER with d 0", x.of(1, 2), 300000);
        due.is("not looked at: 900000 by d 0, 720000 by d 5", x.of(2, 2), 720000);
        due.is("d", x.of(0, 3) * 10 + x.of(1, 3), 11);
        due.is("d of the other", x.of(2, 3), 11);
    }

    private static void bringsIsCut() {
        due.sentence("term 1", "K times well by 1000 (cut), less (1000000 less K) times bad by 1000 (cut)");
        GateWatch x = onDay("ill 1 k<100;heal 1 k<100;well 1;bad 1", 2);
        // 998.002 less 1.998
        due.is("best(0, 0, 1, 1) of 998002", x.best(0, 0, 1, 1), 998 - 1);
        due.is("of KNOWN 1000000", onDay("well 999;bad 999", 0).best(0, 0, 1, 1), 999000);
        due.is("of KNOWN 0", ill("well 999;bad 999").best(0, 0, 1, 1), -999000);
        due.is("with neither", onDay("look 1", 0).best(0, 0, 1, 1), 0);
    }

    private static void bringsAhead() {
        due.sentence("term 1", "by K as it is ahead of all LOOKS");
        GateWatch x = ill("well 20;bad 30;look 5;mend 7");
        x.plan(0, 0);
        due.is("mended, but bad ahead of it", x.mean(0, 1), -30000 - 5000 - 7000);
        due.is("best(0, 0, 1, 2)", x.best(0, 0, 1, 2), -30000 - 5000 - 7000);
    }

    private static void costs() {
        due.sentence("term 1", "A LOOK costs look (times 1000), mend likewise when paid");
        int[][] asked = {{0, 0, 0, 0}, {0, 1, 0, -1000}, {1, 0, -1000, -1000}, {999, 999, -999000, -1998000}};
        for (int[] a : asked) {
            GateWatch x = onDay("look " + a[0] + ";mend " + a[1], 0);
            x.plan(0, 0);
            due.is("WELL: mend isn't paid", x.best(0, 0, 1, 2), a[2]);
            due.is("WELL: mend isn't paid", x.run(0, 1, 0), a[2]);
            x.seen(0, false);
            due.is("ILL", x.best(0, 0, 1, 2), a[3]);
            due.is("ILL", x.mean(0, 1), a[3]);
            due.is("ILL", x.run(0, 1, 0), a[3]);
        }
    }

    // ---- term 2

    private static void wages() {
        due.sentence("term 2", "a WAGE w (0 .. 200) for each DAY on which it isn't looked at, n DAYS (1 .. 8) long");
        GateWatch x = onDay("well 20;look 5", 0);
        due.is("w 0, n 1", x.best(0, 0, 1, 0), 20000);
        due.is("w 200, n 1", x.best(0, 200, 1, 0), 220000);
        due.is("w 0, n 8", x.best(0, 0, 8, 0), 160000);
        due.is("w 200, n 8", x.best(0, 200, 8, 0), 8 * 220000);
        due.is("w 200, n 8, looked at first", x.best(0, 200, 8, 2), 15000 + 7 * 220000);
        for (int w : new int[] {-1, 201, MIN, MAX}) {
            refused.is("best(0, " + w + ", 1, 0)", y -> y.best(0, w, 1, 0), GateWatch.NO);
        }
        for (int n : new int[] {0, 9, -1, MIN, MAX}) {
            refused.is("best(0, 0, " + n + ", 0)", y -> y.best(0, 0, n, 0), GateWatch.NO);
        }
    }

    private static void noDays() {
        due.sentence("term 2", "BEST of no DAYS is 0");
        GateWatch x = ill("well 20;bad 30;look 5;mend 7");
        due.is("NOT of the last DAY", x.best(0, 9, 1, 1), -30000 + 9000);
        due.is("LOOKED of the last DAY", x.best(0, 9, 1, 2), -30000 - 5000 - 7000);
        x.seen(0, true);
        due.is("NOT of the last DAY", x.best(0, 9, 1, 1), 20000 + 9000);
        due.is("LOOKED of the last DAY", x.best(0, 9, 1, 2), 20000 - 5000);
    }

    private static void greaterOne() {
        due.sentence("term 2", "BEST is the greater one");
        GateWatch x = worth(20, 30);
        int[][] asked = {{37, 14, 15, 15}, {38, 16, 16, 16}, {39, 18, 17, 18}};
        for (int[] a : asked) {
            due.is("NOT with " + a[0], x.best(0, a[0], 2, 1), 1000 * a[1]);
            due.is("LOOKED with " + a[0], x.best(0, a[0], 2, 2), 1000 * a[2]);
            due.is("BEST with " + a[0], x.best(0, a[0], 2, 0), 1000 * a[3]);
        }
    }

    private static void cutTowardZero() {
        due.sentence("term 2", "together, by 1000000 (cut toward 0)");
        GateWatch less = onDay("ill 1 d<9;mend 1", 2);
        // 1999 times -1000 by 1000000 is -1.999
        due.is("KNOWN", less.of(0, 2), 998001);
        due.is("below 0", less.best(0, 0, 1, 2), -1);
        GateWatch more = onDay("ill 1 d<9;well 1", 2);
        // 998001 times 999 by 1000000 is 997.002999
        due.is("above 0", more.best(0, 0, 2, 2), 998 + 997);
    }

    private static void behindSeen() {
        due.sentence("term 2", "Behind seen WELL: KNOWN 1000000, d 0, then OVER; behind seen ILL: KNOWN 0 (mended: 1000000), d 0, then OVER");
        GateWatch well = onDay("ill 500 d=0;ill 100 d=3;well 10;look 1", 0);
        well.seen(0, true);
        due.is("WELL, d 0", well.best(0, 0, 2, 2), 10000 - 1000 + 5000);
        GateWatch ill = ill("heal 250 d=0;heal 900 d=1;well 10;bad 20;look 1");
        due.is("ILL, d 0", ill.best(0, 0, 2, 2), -20000 - 1000 + 2500 - 15000);
        due.is("NOT, the same d", ill.best(0, 0, 2, 1), -20000 + 2500 - 15000);
        GateWatch mended = ill("ill 500 d=0;heal 250 d=0;well 10;bad 20;look 1;mend 2");
        due.is("mended, d 0", mended.best(0, 0, 2, 2), -20000 - 1000 - 2000 + 5000 - 10000);
        mended.days(1);
        // 250000, d 1; behind a LOOK it is 500000 either way.
        due.is("d 0 behind the LOOK", mended.best(0, 0, 2, 2), 2500 - 15000 - 1000 - 1500 + 5000 - 10000);
        due.is("d goes on without", mended.best(0, 0, 2, 1), 2500 - 15000 + 2500 - 15000);
    }

    private static void numberEnds() {
        due.sentence("term 2", "NUMBER .. the least w for which on the first DAY NOT is LOOKED or more (-5: none up to 200)");
        due.is("0 is enough, and more than enough", worth(6, 5).number(0, 2), 0);
        due.is("0 makes them alike", worth(6, 6).number(0, 2), 0);
        due.is("1 makes them alike", worth(6, 7).number(0, 2), 1);
        due.is("199 makes them alike", worth(100, 111).number(0, 2), 199);
        due.is("200 makes them alike", worth(100, 112).number(0, 2), 200);
        due.is("201 would", worth(100, 113).number(0, 2), -5);
        due.is("as far away as can be", worth(999, 999).number(0, 8), -5);
        due.is("NOT with 200", worth(100, 113).best(0, 200, 2, 1), 400000 - 226000);
        due.is("LOOKED with 200", worth(100, 113).best(0, 200, 2, 2), 200000 + 100000 - 113000 - 12000);
    }

    private static void suchEnds() {
        due.sentence("term 2", "SUCH: whether it is so for all greater w, too");
        due.is("from 0 on", worth(6, 5).such(0, 2), 1);
        due.is("from 199 on", worth(100, 111).such(0, 2), 1);
        due.is("there is none greater than 200", worth(100, 112).such(0, 2), 1);
        due.is("there is no NUMBER", worth(100, 113).such(0, 2), -5);
        // Found by trying many: by the cuts LOOKED is more again at the last wage alone; at the next one alone.
        suchBy("ill 939 d<3;heal 614 d=1;well 818;bad 548;look 20;mend 185", 3, 4, 200);
        suchBy("ill 626 d<4;heal 669 d<3;well 70;bad 76;look 7", 2, 3, 1);
        // Up to 19 they are alike, which is so, too.
        suchBy("ill 989 d<5;heal 176 d<2;well 183;bad 78;look 18", 1, 3, -1);
    }

    /** The NUMBER is 0; more is the wage above it at which LOOKED is more, if there is one. */
    private static void suchBy(String sort, int day, int n, int more) {
        GateWatch x = onDay(sort, day);
        due.is("number(0, " + n + ")", x.number(0, n), 0);
        for (int w = 1; w <= 200; w++) {
            long above = x.best(0, w, n, 2) - x.best(0, w, n, 1);
            due.is("LOOKED is more with " + w, above > 0 ? 1 : 0, w == more ? 1 : 0);
        }
        due.is("alike with 19", x.best(0, 19, n, 2) - x.best(0, 19, n, 1), 0);
        due.is("such(0, " + n + ")", x.such(0, n), more < 0 ? 1 : 0);
    }

    // ---- promises 5 to 11

    private static GateWatch eightThings() {
        GateWatch x = Refused.rich();
        for (int t = 3; t < 8; t++) {
            x.thing(1, t);
        }
        return x;
    }

    private static void thing() {
        due.sentence("promise 5", "NONE: sort");
        for (int sort : new int[] {2, -1, 6, MIN, MAX}) {
            refused.is("thing(" + sort + ", 0)", x -> x.thing(sort, 0), GateWatch.NONE);
        }
        due.is("the last SORT", Refused.rich().thing(1, 0), 3);
        due.sentence("promise 5", "BAD: place");
        for (int place : new int[] {100, -1, MIN, MAX}) {
            refused.is("thing(0, " + place + ")", x -> x.thing(0, place), GateWatch.BAD);
        }
        due.sentence("promise 5", "FULL");
        refused.is("a ninth", ThingBoundaryTest::eightThings, x -> x.thing(0, 0), GateWatch.FULL);
        due.sentence("term 5", "REFUSALS, of several the first one told");
        refused.is("no such SORT, place", x -> x.thing(2, 100), GateWatch.NONE);
        refused.is("a ninth of no such SORT", ThingBoundaryTest::eightThings, x -> x.thing(2, 0), GateWatch.NONE);
        refused.is("a ninth at place 100", ThingBoundaryTest::eightThings, x -> x.thing(0, 100), GateWatch.BAD);
    }

    private static void of() {
        due.sentence("promise 6", "Of a THING what 0 SORT, 1 PLACE, 2 KNOWN, 3 d, 4 COUNTS of WELL, 5 of ILL");
        GateWatch y = Due.with("well 1", 1);
        Due.sort(y, "well 2");
        y.thing(1, 99);
        int[] told = {1, 99, 1000000, 0, 0, 0};
        for (int what = 0; what <= 5; what++) {
            due.is("of(1, " + what + ")", y.of(1, what), told[what]);
        }
        due.sentence("promise 6", "NONE");
        for (int t : new int[] {3, -1, 8, MIN, MAX}) {
            refused.is("of(" + t + ", 0)", x -> x.of(t, 0), GateWatch.NONE);
        }
        for (int what : new int[] {6, -1, MIN, MAX}) {
            refused.is("of(0, " + what + ")", x -> x.of(0, what), GateWatch.NONE);
        }
    }

    private static void days() {
        due.sentence("promise 7", "n DAYS (1 .. 20) go by .. BAD");
        due.is("days(1)", Refused.rich().days(1), 7);
        due.is("days(20)", Refused.rich().days(20), 26);
        for (int n : new int[] {0, 21, -1, MIN, MAX}) {
            refused.is("days(" + n + ")", x -> x.days(n), GateWatch.BAD);
        }
    }

    private static void daysBeyond() {
        due.sentence("promise 7", "BAD: also beyond 999");
        for (int before : new int[] {0, 1, 5, 19}) {
            Supplier<GateWatch> late = () -> {
                GateWatch x = Refused.rich();
                go(x, 999 - before - x.count(3));
                return x;
            };
            refused.is("days(" + (before + 1) + ") on DAY " + (999 - before), late, x -> x.days(before + 1), GateWatch.BAD);
            due.is("days(" + before + ")", late.get().days(before), before == 0 ? GateWatch.BAD : 999);
            refused.is("days(21)", late, x -> x.days(21), GateWatch.BAD);
        }
    }

    private static void nothingTurns() {
        due.sentence("promise 7", "with no LOOK, and nothing turns (KNOWN alone goes OVER)");
        GateWatch x = onDay("ill 999 k=0;ill 1 k=0;well 1;bad 9", 0);
        x.plan(6, 0);
        x.days(20);
        due.is("KNOWN", x.of(0, 2), 0);
        due.is("it is WELL", x.run(0, 1, 0), 1000);
        due.is("then it turned", x.run(0, 1, 0), -9000);
        due.is("no LOOK was counted", x.of(0, 4) + x.of(0, 5), 0);
    }

    private static void seen() {
        due.sentence("promise 8", "seen as told .. (no cost, not mended, not counted; d 0): KNOWN ahead of it");
        GateWatch x = onDay("ill 250 d=1;well 20;bad 30;look 5;mend 7", 3);
        x.plan(6, 0);
        due.is("seen(0, false)", x.seen(0, false), 750000);
        due.is("KNOWN, not mended", x.of(0, 2), 0);
        due.is("d", x.of(0, 3), 0);
        due.is("seen(0, false) again", x.seen(0, false), 0);
        due.is("it is ILL", x.run(0, 1, 0), -30000);
        due.is("seen(0, true)", x.seen(0, true), 0);
        due.is("seen(0, true) again", x.seen(0, true), 1000000);
        due.is("d", x.of(0, 3), 0);
        due.is("not counted", x.of(0, 4) + x.of(0, 5), 0);
        due.is("it is WELL", x.run(0, 1, 0), 20000);
        due.sentence("promise 8", "NONE");
        for (int t : new int[] {3, -1, 8, MIN, MAX}) {
            refused.is("seen(" + t + ", true)", y -> y.seen(t, true), GateWatch.NONE);
            refused.is("seen(" + t + ", false)", y -> y.seen(t, false), GateWatch.NONE);
        }
    }

    private static void best() {
        due.sentence("promise 9", "what 0 BEST, 1 NOT, 2 LOOKED (of the first DAY). NO: thing, w, n, what");
        for (int t : new int[] {3, -1, 8, MIN, MAX}) {
            refused.is("best(" + t + ", 0, 1, 0)", x -> x.best(t, 0, 1, 0), GateWatch.NO);
        }
        for (int what : new int[] {3, -1, MIN, MAX}) {
            refused.is("best(0, 0, 1, " + what + ")", x -> x.best(0, 0, 1, what), GateWatch.NO);
        }
    }

    private static void number() {
        due.sentence("promise 10", "NONE; BAD: n");
        due.is("n 1", worth(20, 30).number(0, 1), 0);
        due.is("n 8", worth(10, 10).number(0, 8), 8 + 6 * 20);
        for (int t : new int[] {3, -1, 8, MIN, MAX}) {
            refused.is("number(" + t + ", 1)", x -> x.number(t, 1), GateWatch.NONE);
        }
        for (int n : new int[] {0, 9, -1, MIN, MAX}) {
            refused.is("number(0, " + n + ")", x -> x.number(0, n), GateWatch.BAD);
        }
        due.sentence("term 5", "REFUSALS, of several the first one told");
        refused.is("no such THING, n", x -> x.number(3, 9), GateWatch.NONE);
    }

    private static void such() {
        due.sentence("promise 11", "1, 0 (-5: there is no NUMBER). NONE; BAD: n");
        due.is("n 1", worth(20, 30).such(0, 1), 1);
        due.is("n 8", worth(10, 10).such(0, 8), 1);
        for (int t : new int[] {3, -1, 8, MIN, MAX}) {
            refused.is("such(" + t + ", 1)", x -> x.such(t, 1), GateWatch.NONE);
        }
        for (int n : new int[] {0, 9, -1, MIN, MAX}) {
            refused.is("such(0, " + n + ")", x -> x.such(0, n), GateWatch.BAD);
        }
        due.sentence("term 5", "REFUSALS, of several the first one told");
        refused.is("no such THING, n", x -> x.such(3, 9), GateWatch.NONE);
    }

    public static void main(String[] args) {
        thingsAtMost();
        places();
        daysAre();
        wellAtFirst();
        sinceItCame();
        dAtMost();
        overIsCut();
        overByD();
        mendAboveNone();
        lookAtZero();
        bringsIsCut();
        bringsAhead();
        costs();
        wages();
        noDays();
        greaterOne();
        cutTowardZero();
        behindSeen();
        numberEnds();
        suchEnds();
        thing();
        of();
        days();
        daysBeyond();
        nothingTurns();
        seen();
        best();
        number();
        such();
        due.end();
    }
}
