import java.util.function.Supplier;

/** The boundary cases of PLANS and of what they bring (term 3, promises 12 to 20), a test for each sentence. */
public final class PlanBoundaryTest {
    private static final Due due = new Due();
    private static final Refused refused = new Refused(due);
    private static final int MIN = Integer.MIN_VALUE, MAX = Integer.MAX_VALUE;
    private static final int PLAN = 0, NUMBERED = 1, TURN = 2, NEAR = 3, DRAWN = 4, FAR = 5, TOLD = 6;

    /** THINGS that stay as they are till they are mended, all WELL, and one PLAN. */
    private static GateWatch with(int things, int kind, int v) {
        GateWatch x = Due.with(Due.STEADY, things);
        x.plan(kind, v);
        return x;
    }

    private static GateWatch told(int things, int... row) {
        GateWatch x = with(things, TOLD, 0);
        for (int day : row) {
            x.row(0, day);
        }
        return x;
    }

    private static void is(String call, boolean holds) {
        due.is(call, holds ? 1 : 0, 1);
    }

    // ---- term 3: who is looked at

    private static void plansAtMost() {
        due.sentence("term 3", "PLANS are numbered from 0 on, 12 at most, of KINDS: 0 .. 6");
        GateWatch x = new GateWatch();
        for (int p = 0; p < 12; p++) {
            due.is("plan()", x.plan(p % 7, p), p);
        }
        for (int p = 0; p < 12; p++) {
            due.is("as(" + p + ", " + p % 7 + ")", x.as(p, p % 7), p);
        }
        due.is("a thirteenth", x.plan(0, 0), GateWatch.FULL);
        due.is("count(2)", x.count(2), 12);
    }

    private static void eachHasV() {
        due.sentence("term 3", "Each PLAN has a number v (0 .. 99)");
        for (int kind = 0; kind <= 6; kind++) {
            due.is("v 0", with(0, kind, 0).as(0, kind), 0);
            due.is("v 99", with(0, kind, 99).as(0, kind), 99);
        }
    }

    private static void looksAtFirst() {
        due.sentence("term 3", "LOOKS: how many THINGS are looked at each DAY (1 .. 3; 1 at first");
        for (int kind = 0; kind <= 6; kind++) {
            GateWatch x = with(5, kind, 0);
            x.row(0, 31);
            due.is("1 at first, KIND " + kind, Integer.bitCount(x.whom(0)), 1);
            for (int n = 1; n <= 3; n++) {
                x.looks(n);
                due.is("LOOKS " + n + ", KIND " + kind, Integer.bitCount(x.whom(0)), n);
            }
        }
    }

    private static void looksOfFewer() {
        due.sentence("term 3", "LOOKS .. all, if there are fewer");
        for (int kind = 0; kind <= 5; kind++) {
            for (int things = 0; things <= 3; things++) {
                GateWatch x = with(things, kind, 4);
                x.looks(3);
                x.days(2);
                due.is(things + " THINGS, KIND " + kind, x.whom(0), (1 << things) - 1);
            }
        }
        GateWatch x = with(1, PLAN, 0);
        x.looks(3);
        due.is("one of one", x.whom(0), 1);
        due.is("it pays for one", x.mean(0, 1), 20000 - 5000);
        for (int t = 0; t < 4; t++) {
            x.thing(0, 0);
        }
        due.is("as more come, three", x.whom(0), 7);
        due.is("it pays for three", x.mean(0, 1), 5 * 20000 - 3 * 5000);
    }

    private static void leastNumbers() {
        due.sentence("term 3", "PLAN: those of the least numbers");
        GateWatch x = with(8, PLAN, 99);
        x.seen(7, false);
        x.days(5);
        for (int n = 1; n <= 3; n++) {
            x.looks(n);
            due.is("LOOKS " + n, x.whom(0), (1 << n) - 1);
        }
    }

    /** The NUMBER of the second THING, seen ILL: 0 by 1, 38 by 2, 88 by 3; that of the first, WELL, is 0. */
    private static void numberedBy() {
        due.sentence("term 3", "greatest NUMBER by n = 1 and (v modulo 3)");
        int[] vs = {0, 1, 2, 3, 4, 5, 97, 98, 99};
        for (int v : vs) {
            GateWatch x = with(2, NUMBERED, v);
            x.seen(1, false);
            due.is("number(1, n) by v " + v, x.number(1, 1 + v % 3), v % 3 == 0 ? 0 : v % 3 == 1 ? 38 : 88);
            due.is("whom by v " + v, x.whom(0), v % 3 == 0 ? 1 : 2);
        }
        // By 2 the one is 30, the other 20; by 3 they are 70 and 90.
        GateWatch y = new GateWatch();
        Due.sort(y, "well 20;bad 20;look 1;mend 9");
        Due.sort(y, "well 50;bad 20;look 1;mend 49");
        y.thing(0, 0);
        y.thing(1, 0);
        y.seen(0, false);
        y.seen(1, false);
        y.plan(NUMBERED, 1);
        y.plan(NUMBERED, 2);
        due.is("by 2", y.number(0, 2) * 1000 + y.number(1, 2), 30020);
        due.is("by 3", y.number(0, 3) * 1000 + y.number(1, 3), 70090);
        due.is("whom by 2", y.whom(0), 1);
        due.is("whom by 3", y.whom(1), 2);
    }

    /** By two DAYS the NUMBERS are well and bad, less 12: 200, and 201, which is none. */
    private static void noneCounts() {
        due.sentence("term 3", "(-5 counts as 201)");
        GateWatch x = new GateWatch();
        Due.sort(x, "well 100;bad 112;look 5;mend 7");
        Due.sort(x, "well 100;bad 113;look 5;mend 7");
        Due.sort(x, "well 500;bad 500;look 5;mend 7");
        for (int s = 0; s < 3; s++) {
            x.thing(s, 0);
            x.seen(s, false);
        }
        x.plan(NUMBERED, 1);
        due.is("number(0, 2)", x.number(0, 2), 200);
        due.is("number(1, 2)", x.number(1, 2), -5);
        due.is("number(2, 2)", x.number(2, 2), -5);
        due.is("ahead of 200, and all such are alike", x.whom(0), 2);
        x.looks(2);
        due.is("two of them", x.whom(0), 6);
        x.looks(3);
        due.is("then that of 200", x.whom(0), 7);
    }

    private static void likeOnes() {
        due.sentence("term 3", "of like ones the least");
        for (int kind : new int[] {NUMBERED, NEAR, FAR}) {
            GateWatch x = with(5, kind, 1);
            x.seen(4, false);
            x.seen(3, false);
            x.days(1);
            x.seen(0, true);
            x.seen(1, true);
            int[] whom = kind == FAR ? new int[] {4, 12, 28} : new int[] {8, 24, 25};
            for (int n = 1; n <= 3; n++) {
                x.looks(n);
                due.is("LOOKS " + n + ", KIND " + kind, x.whom(0), whom[n - 1]);
            }
        }
    }

    private static void turn() {
        due.sentence("term 3", "TURN: THINGS one after the other by numbers (the first behind the last), beginning at the "
            + "DAY times LOOKS, and v, together, modulo how many there are");
        int[][] asked = {{1, 0, 1, 2, 4, 8, 16, 1, 2}, {1, 4, 16, 1, 2, 4, 8, 16, 1}, {1, 99, 16, 1, 2, 4, 8, 16, 1},
            {2, 0, 3, 12, 17, 6, 24, 3, 12}, {3, 3, 25, 14, 19, 28, 7, 25, 14}, {3, 2, 28, 7, 25, 14, 19, 28, 7}};
        for (int[] a : asked) {
            GateWatch x = with(5, TURN, a[1]);
            x.looks(a[0]);
            for (int day = 0; day < 7; day++) {
                due.is("LOOKS " + a[0] + ", v " + a[1] + ", DAY " + day, x.whom(0), a[2 + day]);
                x.days(1);
            }
        }
        due.is("of one THING", with(1, TURN, 99).whom(0), 1);
        due.is("of no THINGS", with(0, TURN, 99).whom(0), 0);
    }

    private static void near() {
        due.sentence("term 3", "NEAR: those of which a LOOK would best serve the DAY behind: (1000000 less KNOWN) the "
            + "greatest; of like ones the least");
        GateWatch x = Due.with("ill 500 k=0;ill 501 k=10;ill 499 k=20;ill 501 k=30", 4);
        x.plan(NEAR, 50);
        due.is("all WELL", x.whom(0), 1);
        x.days(1);
        due.is("501000 of the second and the fourth", x.whom(0), 2);
        x.looks(2);
        due.is("both", x.whom(0), 10);
        x.looks(3);
        due.is("then 500000", x.whom(0), 11);
    }

    /** DAY times 31 and v times 17: 0; 85; 96; 97, which is 0; 102, which is 5. Then modulo 7. */
    private static void drawn() {
        due.sentence("term 3", "DRAWN: as TURN, beginning at (DAY times 31 and v times 17) modulo 97, modulo how many there are");
        int[][] asked = {{0, 0, 0}, {0, 5, 85 % 7}, {2, 2, 96 % 7}, {1, 15, 286 % 97 % 7}, {0, 6, 5}, {3, 8, 229 % 97 % 7},
            {19, 99, (19 * 31 + 99 * 17) % 97 % 7}};
        for (int[] a : asked) {
            GateWatch x = with(7, DRAWN, a[1]);
            if (a[0] > 0) {
                x.days(a[0]);
            }
            for (int n = 1; n <= 3; n++) {
                x.looks(n);
                int want = 0;
                for (int i = 0; i < n; i++) {
                    want |= 1 << (a[2] + i) % 7;
                }
                due.is("DAY " + a[0] + ", v " + a[1] + ", LOOKS " + n, x.whom(0), want);
            }
        }
        GateWatch exact = with(7, DRAWN, 40);
        exact.days(10);
        due.is("310 and 680 is 990: 20 by 97", exact.whom(0), 1 << 20 % 7);
        GateWatch all = with(4, DRAWN, 57);
        due.is("969 is 96 by 97: 0 of four", all.whom(0), 1);
        all.days(1);
        due.is("1000 is 30 by 97: 2 of four", all.whom(0), 4);
        GateWatch none = with(8, DRAWN, 0);
        due.is("DAY 0", none.whom(0), 1);
        for (int i = 0; i < 4; i++) {
            none.days(20);
        }
        none.days(17);
        due.is("DAY 97 is as DAY 0", none.whom(0), 1);
        due.is("of no THINGS", with(0, DRAWN, 99).whom(0), 0);
    }

    private static void far() {
        due.sentence("term 3", "FAR: as NEAR, by d the greatest");
        GateWatch x = with(4, FAR, 50);
        x.days(1);
        x.seen(0, false);
        x.days(1);
        x.seen(1, true);
        due.is("d 1, 0, 2, 2", x.whom(0), 4);
        x.looks(2);
        due.is("two", x.whom(0), 12);
        x.looks(3);
        due.is("three", x.whom(0), 13);
    }

    private static void rowAtMost() {
        due.sentence("term 3", "TOLD: of its ROW (10 DAYS at most; each a set of THINGS as bits) that of the DAY modulo how many there are");
        GateWatch x = told(4);
        int[] row = {1, 2, 4, 8, 4, 2, 1, 0, 8, 2};
        for (int n = 1; n <= 10; n++) {
            due.is("row(0, ..)", x.row(0, row[n - 1]), n);
        }
        due.is("an eleventh", x.row(0, 1), GateWatch.FULL);
        for (int day = 0; day < 21; day++) {
            due.is("on DAY " + day, x.whom(0), row[day % 10]);
            x.days(1);
        }
        GateWatch one = told(4, 8);
        due.is("a ROW of one DAY", one.whom(0), 8);
        one.days(1);
        due.is("a ROW of one DAY, the next", one.whom(0), 8);
        one.row(0, 2);
        due.is("by DAY 1 the second at once", one.whom(0), 2);
    }

    private static void firstOfRow() {
        due.sentence("term 3", "only the first LOOKS of these by numbers (without a ROW none)");
        int[][] asked = {{0b11111111, 1, 3, 7}, {0b10110100, 4, 20, 52}, {0b11000000, 64, 192, 192}, {0b10000000, 128, 128, 128},
            {0b10101010, 2, 10, 42}, {0, 0, 0, 0}};
        for (int[] a : asked) {
            GateWatch x = told(8, a[0]);
            for (int n = 1; n <= 3; n++) {
                x.looks(n);
                due.is("LOOKS " + n + " of " + a[0], x.whom(0), a[n]);
            }
        }
        GateWatch none = told(8);
        none.looks(3);
        due.is("without a ROW", none.whom(0), 0);
        due.is("it pays for none", none.mean(0, 3), 3 * 8 * 20000);
        none.days(3);
        due.is("without a ROW, on DAY 3", none.whom(0), 0);
        due.is("with a ROW, but no LOOK", told(2, 0).mean(0, 1), 40000);
    }

    // ---- term 3: what plans bring

    private static void meanDays() {
        due.sentence("term 3", "MEAN of a PLAN for n DAYS (1 .. 3) from NOW");
        GateWatch x = with(1, PLAN, 0);
        for (int n = 1; n <= 3; n++) {
            due.is("mean(0, " + n + ")", x.mean(0, n), 15000 * n);
        }
        due.is("of no THINGS", with(0, PLAN, 0).mean(0, 3), 0);
    }

    private static void bothGoneOn() {
        due.sentence("term 3", "behind each LOOK (of THINGS by numbers, one after the other) both ways that it can show are "
            + "gone on with to the end, and it counts the mean");
        GateWatch x = Due.with("ill 500 d=0;well 10;bad 20;look 1;mend 4", 2);
        x.plan(NEAR, 0);
        x.days(1);
        // Both 500000: -5000 each. The LOOK of thing 0 costs 1000 and, half the time, 4000; it is WELL either way and
        // 500000 on the next DAY, so that the same comes again, and again.
        due.is("1 DAY", x.mean(0, 1), -10000 - 1000 - 2000);
        due.is("2 DAYS", x.mean(0, 2), -26000);
        GateWatch y = Due.with("ill 500 d=0;well 10;bad 20;look 1", 2);
        y.plan(NEAR, 0);
        y.days(1);
        // Not mended: half the time it is seen ILL, and stays; then NEAR looks at it again, else at it as of like ones the least.
        due.is("2 DAYS, not mended", y.mean(0, 2), -10000 - 1000 + (-10000 - 1000 + -25000 - 1000) / 2);
    }

    private static void meanIsCut() {
        due.sentence("term 3", "together, by 1000000 (cut toward 0)");
        GateWatch less = Due.with("ill 1 d<9;mend 1", 1);
        less.plan(PLAN, 0);
        less.days(2);
        // 1999 times -1000 by 1000000 is -1.999
        due.is("below 0", less.mean(0, 1), -1);
        GateWatch more = Due.with("ill 1 d<9;well 1", 1);
        more.plan(PLAN, 0);
        more.days(2);
        // 998001 times 999 by 1000000 is 997.002999
        due.is("above 0", more.mean(0, 2), 998 + 997);
    }

    /** One THING brings 20000 each DAY; the other nothing, KNOWN to be WELL by 1 or all but 1 millionth. */
    private static void hardlySure() {
        due.sentence("term 3", "K times what comes behind WELL and (1000000 less K) times what comes behind ILL (less mending)");
        for (boolean well : new boolean[] {true, false}) {
            GateWatch x = Due.with(well ? "ill 999 k<100" : "heal 999 k<100", 1);
            Due.sort(x, "well 20");
            x.thing(1, 0);
            x.plan(PLAN, 0);
            x.seen(0, well);
            x.days(2);
            due.is("KNOWN", x.of(0, 2), well ? 1 : 999999);
            due.is("the same comes behind WELL and ILL", x.mean(0, 2), 40000);
            due.is("on 3 DAYS", x.mean(0, 3), 60000);
            due.is("ALL", x.all(2, 0), 40000);
        }
    }

    private static void dayGoesOn() {
        due.sentence("term 3", "the DAY goes on in it; nothing changes by it");
        GateWatch x = told(3, 0, 1, 3, 7);
        x.looks(3);
        String state = Due.state(x);
        due.is("no LOOK, one, two", x.mean(0, 3), 3 * 60000 - 15000);
        x.days(1);
        due.is("one, two, three", x.mean(0, 3), 3 * 60000 - 30000);
        x.days(1);
        due.is("two, three, none", x.mean(0, 3), 3 * 60000 - 25000);
        x.days(2);
        due.is("none, one, two again", x.mean(0, 3), 3 * 60000 - 15000);
        GateWatch y = told(3, 0, 1, 3, 7);
        y.looks(3);
        y.mean(0, 3);
        is("nothing changes by it", Due.state(y).equals(state));
        GateWatch turn = with(3, TURN, 1);
        turn.seen(0, false);
        // THINGS 1, 2, 0: the third DAY pays for mending 0, which has been bad thrice.
        due.is("TURN, 3 DAYS", turn.mean(0, 3), 3 * 10000 - 15000 - 7000);
    }

    /** Who is looked at shows in what it costs: 1, 10 or 100. */
    private static GateWatch costs(String rest) {
        GateWatch x = new GateWatch();
        String[] looks = {"look 1", "look 10", "look 100"};
        for (int t = 0; t < 3; t++) {
            Due.sort(x, looks[t] + rest);
            x.thing(t, 0);
        }
        x.days(1);
        x.seen(0, true);
        return x;
    }

    private static void onThatDay() {
        due.sentence("term 3", "WHOM is by KNOWN and d as they are on that DAY");
        GateWatch far = costs("");
        far.plan(FAR, 0);
        int[] costs = {10000, 110000, 111000};
        GateWatch near = costs(";ill 100 k<100;mend 1");
        near.plan(NEAR, 0);
        // Mending: 1000 times 100000, then 190000 twice, by 1000000.
        int[] mends = {100, 290, 480};
        for (int n = 1; n <= 3; n++) {
            due.is("FAR: 1, 2, 0", far.mean(0, n), -costs[n - 1]);
            due.is("NEAR: 1, 2, 0", near.mean(0, n), -costs[n - 1] - mends[n - 1]);
        }
        for (int v : new int[] {1, 2, 97, 98}) {
            // One object for each call: neither can lean on what the other has reckoned.
            for (int call = 0; call < 2; call++) {
                GateWatch x = with(3, NUMBERED, v);
                x.seen(1, false);
                x.seen(2, false);
                if (call == 0) {
                    due.is("NUMBERED: 1, 2, 0", x.mean(0, 3), -40000 - 12000 + 10000 - 12000 + 60000 - 5000);
                } else {
                    due.is("NUMBERED loses by mending on the last DAY", x.loses(0, 2), 7000);
                }
            }
        }
    }

    private static void allIsGreatest() {
        due.sentence("term 3", "just LOOKS THINGS are looked at as is best for the DAYS that are left");
        GateWatch x = with(3, PLAN, 0);
        due.is("though no LOOK is worth it", x.all(1, 0), 60000 - 5000);
        due.is("2 DAYS", x.all(2, 0), 120000 - 10000);
        x.seen(2, false);
        due.is("1 DAY: not the one to be mended", x.all(1, 1), 1);
        due.is("1 DAY", x.all(1, 0), 10000 - 5000);
        due.is("2 DAYS: the one to be mended", x.all(2, 1), 4);
        due.is("2 DAYS", x.all(2, 0), 10000 - 12000 + 60000 - 5000);
        x.looks(2);
        due.is("two of three", x.all(1, 1), 3);
        x.looks(3);
        due.is("all of three", x.all(1, 1), 7);
        due.is("all of three", x.all(1, 0), 10000 - 22000);
        GateWatch fewer = with(2, PLAN, 0);
        fewer.looks(3);
        due.is("all of fewer", fewer.all(1, 1), 3);
        due.is("all of fewer", fewer.all(1, 0), 30000);
    }

    /** With no mending two LOOKS show the same; what the first showed lets the second be chosen. */
    private static void allByThen() {
        due.sentence("term 3", "each DAY, by all that is known then");
        GateWatch x = new GateWatch();
        Due.sort(x, "ill 500 d=0;well 50;bad 50;look 1");
        Due.sort(x, "ill 900 d=1;well 50;bad 50;look 9");
        x.thing(0, 0);
        x.thing(1, 0);
        due.is("the one that costs less", x.all(2, 1), 1);
        due.is("WELL twice, and half of thing 0 then", x.all(2, 0), 100000 - 1000 + 50000 - 1000);
    }

    private static void leastSet() {
        due.sentence("term 3", "WHOM for the first DAY (of several the least set as bits)");
        for (int n = 1; n <= 3; n++) {
            GateWatch x = with(8, PLAN, 0);
            x.looks(n);
            due.is("all(1, 1), LOOKS " + n, x.all(1, 1), (1 << n) - 1);
            if (n < 3) {
                due.is("all(2, 1), LOOKS " + n, x.all(2, 1), (1 << n) - 1);
            }
        }
        for (int n = 1; n <= 3; n++) {
            GateWatch last = Due.with("look 9", 8 - n);
            Due.sort(last, "look 1");
            for (int t = 0; t < n; t++) {
                last.thing(1, 0);
            }
            last.looks(n);
            due.is("the greatest set of all, LOOKS " + n, last.all(1, 1), 256 - (1 << 8 - n));
            due.is("what it costs", last.all(1, 0), -1000 * n);
        }
        GateWatch y = with(4, PLAN, 0);
        y.looks(2);
        y.seen(0, false);
        due.is("1 DAY, all but the ILL one", y.all(1, 1), 6);
        due.is("2 DAYS, the ILL one and the least other", y.all(2, 1), 3);
    }

    private static void losesMayBe() {
        due.sentence("term 3", "LOSES: ALL less MEAN");
        GateWatch x = with(2, PLAN, 0);
        x.plan(TOLD, 0);
        x.plan(NEAR, 0);
        x.seen(1, false);
        due.is("0", x.loses(0, 1), 0);
        due.is("above 0", x.loses(2, 1), 7000);
        due.is("below 0", x.loses(1, 1), -5000);
        for (int p = 0; p < 3; p++) {
            for (int n = 1; n <= 2; n++) {
                due.is("loses(" + p + ", " + n + ")", x.loses(p, n), x.all(n, 0) - x.mean(p, n));
            }
        }
    }

    private static void boundWages() {
        due.sentence("term 3", "BOUND by n: of wages w 0 .. 200 the least");
        GateWatch x = with(3, PLAN, 0);
        // All WELL for good, so none is looked at: w is paid thrice and comes back twice.
        due.is("the least at 0", x.bound(2), 3 * 40000);
        for (int t = 0; t < 3; t++) {
            x.seen(t, false);
        }
        // Below 38 each gets w less 22, from there on 2w less 60; 4w come back.
        due.is("the least at 38", x.bound(2), 3 * (38 - 22) * 1000 - 4 * 38000);
        GateWatch y = Due.with("well 200;bad 200;look 5;mend 7", 3);
        for (int t = 0; t < 3; t++) {
            y.seen(t, false);
        }
        // Up to 200 each gets w less 12, and 4w come back.
        due.is("the least at 200", y.bound(2), 3 * (200 - 12) * 1000 - 4 * 200000);
    }

    private static void boundLess() {
        due.sentence("term 3", "less w times 1000 times n times (THINGS less LOOKS)");
        GateWatch x = Due.with("well 200;bad 200;look 5;mend 7", 3);
        for (int t = 0; t < 3; t++) {
            x.seen(t, false);
        }
        x.looks(2);
        // Each gets w less 12; 2w come back: the least is at 0.
        due.is("two of three", x.bound(2), -36000);
        x.looks(3);
        due.is("all of three", x.bound(2), -36000);
        GateWatch y = with(2, PLAN, 0);
        y.looks(3);
        due.is("all of fewer: nothing comes back", y.bound(1), 40000);
        due.is("all of fewer, 8 DAYS", y.bound(8), 8 * 40000);
    }

    private static void boundOfNone() {
        due.sentence("term 3", "BOUND of no THINGS: 0");
        for (int looks = 1; looks <= 3; looks++) {
            GateWatch x = Due.with(Due.STEADY, 0);
            x.looks(looks);
            for (int n = 1; n <= 8; n++) {
                due.is("bound(" + n + "), LOOKS " + looks, x.bound(n), 0);
            }
        }
    }

    private static void judgedFirst() {
        due.sentence("term 3", "JUDGED: of a TOLD plan the first of n DAYS (0 is NOW) on which some other set .. -5: none");
        GateWatch x = Due.with("ill 100 k<100", 2);
        x.plan(TOLD, 0);
        x.row(0, 1);
        // KNOWN ahead of the LOOKS: both 1000000; both 900000; 900000 and 810000.
        due.is("1 DAY", x.judged(0, 1), -5);
        due.is("2 DAYS", x.judged(0, 2), -5);
        due.is("3 DAYS: the last of them", x.judged(0, 3), 2);
        due.is("10 DAYS: the first of them", x.judged(0, 10), 2);
        x.days(1);
        due.is("a DAY later", x.judged(0, 10), 1);
        x.seen(0, true);
        due.is("NOW", x.judged(0, 1), 0);
        GateWatch second = Due.with("ill 100 k<100", 2);
        second.plan(TOLD, 0);
        second.row(0, 2);
        due.is("THING 1 looked at, 2 DAYS", second.judged(0, 2), -5);
        due.is("THING 1 looked at, 3 DAYS", second.judged(0, 3), 2);
        due.is("THING 1 looked at, 10 DAYS", second.judged(0, 10), 2);
    }

    private static void judgedGreater() {
        due.sentence("term 3", "some other set of LOOKS THINGS has a greater sum of (1000000 less KNOWN)");
        GateWatch x = told(4, 8, 9);
        due.is("none is ILL: like ones are no greater", x.judged(0, 10), -5);
        x.seen(0, false);
        x.seen(3, false);
        due.is("one of two like ones", x.judged(0, 1), -5);
        x.looks(2);
        due.is("one alone, where two are looked at", x.judged(0, 1), 0);
        x.days(1);
        due.is("both", x.judged(0, 1), -5);
        x.looks(3);
        due.is("the third adds nothing", x.judged(0, 1), -5);
        x.seen(2, false);
        due.is("the third is ILL", x.judged(0, 1), 0);
        GateWatch fewer = told(2, 3);
        fewer.looks(3);
        fewer.seen(1, false);
        due.is("all of fewer", fewer.judged(0, 10), -5);
        GateWatch first = told(3, 7);
        first.seen(2, false);
        due.is("only the first of the ROW's set is looked at", first.judged(0, 1), 0);
    }

    private static void likely() {
        due.sentence("term 3", "each LOOK showing what is most likely (WELL, if KNOWN is 500000 or more)");
        int[][] asked = {{499, 1}, {500, 1}, {501, -5}};
        for (int[] a : asked) {
            // Once it is seen WELL, the other is the worse one a DAY later; seen ILL, it stays the worst.
            GateWatch x = Due.with("ill " + a[0] + " k<100", 2);
            x.plan(TOLD, 0);
            x.row(0, 1);
            x.days(1);
            due.is("KNOWN " + (1000 - a[0]) + "000", x.judged(0, 9), a[1]);
            GateWatch mended = Due.with("ill " + a[0] + " k<100;mend 1", 2);
            mended.plan(TOLD, 0);
            mended.row(0, 1);
            mended.days(1);
            due.is("KNOWN " + (1000 - a[0]) + "000, mended", mended.judged(0, 9), 1);
        }
    }

    // ---- promises 12 to 20

    private static void looks() {
        due.sentence("promise 12", "LOOKS each DAY (1 .. 3; ..): what it was. BAD");
        GateWatch x = with(4, PLAN, 0);
        due.is("looks(3), 1 at first", x.looks(3), 1);
        due.is("looks(1)", x.looks(1), 3);
        due.is("looks(1) again", x.looks(1), 1);
        due.is("looks(2)", x.looks(2), 1);
        due.is("count(4)", x.count(4), 2);
        for (int n : new int[] {0, 4, -1, MIN, MAX}) {
            refused.is("looks(" + n + ")", y -> y.looks(n), GateWatch.BAD);
        }
    }

    private static GateWatch twelvePlans() {
        GateWatch x = Refused.rich();
        for (int p = 8; p < 12; p++) {
            x.plan(p % 7, p);
        }
        return x;
    }

    private static void plan() {
        due.sentence("promise 13", "NONE: kind");
        for (int kind : new int[] {7, -1, MIN, MAX}) {
            refused.is("plan(" + kind + ", 0)", x -> x.plan(kind, 0), GateWatch.NONE);
        }
        due.sentence("promise 13", "BAD: v");
        for (int v : new int[] {100, -1, MIN, MAX}) {
            refused.is("plan(0, " + v + ")", x -> x.plan(0, v), GateWatch.BAD);
            refused.is("plan(6, " + v + ")", x -> x.plan(6, v), GateWatch.BAD);
        }
        due.sentence("promise 13", "FULL");
        refused.is("a thirteenth", PlanBoundaryTest::twelvePlans, x -> x.plan(0, 0), GateWatch.FULL);
        due.sentence("term 5", "REFUSALS, of several the first one told");
        refused.is("no such KIND, v", x -> x.plan(7, 100), GateWatch.NONE);
        refused.is("a thirteenth of no such KIND", PlanBoundaryTest::twelvePlans, x -> x.plan(7, 0), GateWatch.NONE);
        refused.is("a thirteenth with v 100", PlanBoundaryTest::twelvePlans, x -> x.plan(0, 100), GateWatch.BAD);
    }

    private static GateWatch tenRows() {
        GateWatch x = Refused.rich();
        for (int n = 2; n < 10; n++) {
            x.row(6, n % 8);
        }
        return x;
    }

    private static void row() {
        due.sentence("promise 14", "NONE");
        for (int plan : new int[] {8, -1, 12, MIN, MAX}) {
            refused.is("row(" + plan + ", 0)", x -> x.row(plan, 0), GateWatch.NONE);
        }
        due.sentence("promise 14", "BAD: things (bits of none such)");
        for (int things : new int[] {8, 9, 16, 255, 256, -1, -8, MIN, MAX}) {
            refused.is("row(6, " + things + ") with 3 THINGS", x -> x.row(6, things), GateWatch.BAD);
        }
        due.is("row(6, 7) with 3 THINGS", Refused.rich().row(6, 7), 3);
        due.is("row(0, 255) with 8", told(8).row(0, 255), 1);
        due.is("row(0, 256) with 8", told(8).row(0, 256), GateWatch.BAD);
        due.is("row(0, 1) with none", told(0).row(0, 1), GateWatch.BAD);
        due.sentence("promise 14", "STATE: it is no TOLD plan");
        for (int plan = 0; plan <= 5; plan++) {
            int asked = plan;
            refused.is("row(" + plan + ", 1)", x -> x.row(asked, 1), GateWatch.STATE);
        }
        due.sentence("promise 14", "FULL");
        refused.is("an eleventh", PlanBoundaryTest::tenRows, x -> x.row(6, 1), GateWatch.FULL);
        due.is("of another plan", tenRows().row(7, 1), 2);
        due.sentence("term 5", "REFUSALS, of several the first one told");
        refused.is("no such PLAN, things", x -> x.row(8, 8), GateWatch.NONE);
        refused.is("no TOLD plan, things", x -> x.row(0, 8), GateWatch.BAD);
        refused.is("an eleventh, things", PlanBoundaryTest::tenRows, x -> x.row(6, -1), GateWatch.BAD);
    }

    private static void whom() {
        due.sentence("promise 15", "WHOM a PLAN looks at NOW, as bits. NONE");
        due.is("the last PLAN", Refused.rich().whom(7), 4);
        for (int plan : new int[] {8, -1, 12, MIN, MAX}) {
            refused.is("whom(" + plan + ")", x -> x.whom(plan), GateWatch.NONE);
        }
    }

    private static void mean() {
        due.sentence("promise 16", "NO: plan, n (1 .. 3)");
        for (int plan : new int[] {8, -1, 12, MIN, MAX}) {
            refused.is("mean(" + plan + ", 1)", x -> x.mean(plan, 1), GateWatch.NO);
        }
        for (int n : new int[] {0, 4, -1, MIN, MAX}) {
            refused.is("mean(0, " + n + ")", x -> x.mean(0, n), GateWatch.NO);
        }
    }

    private static void all() {
        due.sentence("promise 17", "ALL for n DAYS (1 .. 2): what 0 the MEAN, 1 WHOM. NO: n, what, no THINGS");
        for (int n : new int[] {0, 3, -1, MIN, MAX}) {
            refused.is("all(" + n + ", 0)", x -> x.all(n, 0), GateWatch.NO);
            refused.is("all(" + n + ", 1)", x -> x.all(n, 1), GateWatch.NO);
        }
        for (int what : new int[] {2, -1, MIN, MAX}) {
            refused.is("all(1, " + what + ")", x -> x.all(1, what), GateWatch.NO);
        }
        for (int i = 0; i < 4; i++) {
            int asked = i;
            refused.is("of no THINGS", () -> with(0, PLAN, 0), x -> x.all(1 + asked / 2, asked % 2), GateWatch.NO);
        }
        due.is("of one THING", with(1, PLAN, 0).all(1, 1), 1);
        due.is("of one THING", with(1, PLAN, 0).all(2, 0), 30000);
    }

    private static void loses() {
        due.sentence("promise 18", "LOSES, n 1 .. 2. NO: plan, n, no THINGS");
        for (int plan : new int[] {8, -1, 12, MIN, MAX}) {
            refused.is("loses(" + plan + ", 1)", x -> x.loses(plan, 1), GateWatch.NO);
        }
        for (int n : new int[] {0, 3, -1, MIN, MAX}) {
            refused.is("loses(0, " + n + ")", x -> x.loses(0, n), GateWatch.NO);
        }
        refused.is("of no THINGS", () -> with(0, PLAN, 0), x -> x.loses(0, 1), GateWatch.NO);
        due.is("of one THING", with(1, PLAN, 0).loses(0, 1), 0);
        due.is("of one THING, 2 DAYS", with(1, PLAN, 0).loses(0, 2), 0);
    }

    private static void bound() {
        due.sentence("promise 19", "BOUND, n 1 .. 8. NO");
        GateWatch one = with(1, PLAN, 0);
        due.is("bound(1)", one.bound(1), 20000);
        due.is("bound(8)", one.bound(8), 160000);
        for (int n : new int[] {0, 9, -1, MIN, MAX}) {
            refused.is("bound(" + n + ")", x -> x.bound(n), GateWatch.NO);
            due.is("bound(" + n + ") of no THINGS", new GateWatch().bound(n), GateWatch.NO);
        }
    }

    private static void judged() {
        due.sentence("promise 20", "JUDGED, n 1 .. 10. NONE; BAD");
        for (int plan : new int[] {8, -1, 12, MIN, MAX}) {
            refused.is("judged(" + plan + ", 1)", x -> x.judged(plan, 1), GateWatch.NONE);
        }
        for (int n : new int[] {0, 11, -1, MIN, MAX}) {
            refused.is("judged(6, " + n + ")", x -> x.judged(6, n), GateWatch.BAD);
        }
        due.sentence("promise 20", "STATE: it is no TOLD plan, has no ROW");
        for (int plan = 0; plan <= 5; plan++) {
            int asked = plan;
            refused.is("judged(" + plan + ", 1)", x -> x.judged(asked, 1), GateWatch.STATE);
        }
        Supplier<GateWatch> noRow = () -> {
            GateWatch x = Refused.rich();
            x.plan(TOLD, 0);
            return x;
        };
        refused.is("with no ROW", noRow, x -> x.judged(8, 1), GateWatch.STATE);
        due.is("a ROW of one DAY", told(1, 1).judged(0, 1), -5);
        due.sentence("term 5", "REFUSALS, of several the first one told");
        refused.is("no such PLAN, n", x -> x.judged(8, 11), GateWatch.NONE);
        refused.is("no TOLD plan, n", x -> x.judged(0, 11), GateWatch.BAD);
        refused.is("with no ROW, n", noRow, x -> x.judged(8, 0), GateWatch.BAD);
    }

    public static void main(String[] args) {
        plansAtMost();
        eachHasV();
        looksAtFirst();
        looksOfFewer();
        leastNumbers();
        numberedBy();
        noneCounts();
        likeOnes();
        turn();
        near();
        drawn();
        far();
        rowAtMost();
        firstOfRow();
        meanDays();
        bothGoneOn();
        meanIsCut();
        hardlySure();
        dayGoesOn();
        onThatDay();
        allIsGreatest();
        allByThen();
        leastSet();
        losesMayBe();
        boundWages();
        boundLess();
        boundOfNone();
        judgedFirst();
        judgedGreater();
        likely();
        looks();
        plan();
        row();
        whom();
        mean();
        all();
        loses();
        bound();
        judged();
        due.end();
    }
}
