/** Promises 9 to 11: one thing alone. The numbers were worked out by hand. */
public final class OneThingTest {
    private static final Due due = new Due();

    private static void best() {
        due.promise(9);
        GateWatch x = Due.with("ill 100 k<100;well 20;bad 30;look 5;mend 7", 1);
        due.is("best(0, 0, 1, 0)", x.best(0, 0, 1, 0), 20000);
        due.is("best(0, 0, 1, 1)", x.best(0, 0, 1, 1), 20000);
        due.is("best(0, 0, 1, 2)", x.best(0, 0, 1, 2), 15000);
        // The second DAY at 900000: 18000 less 3000.
        due.is("best(0, 0, 2, 1)", x.best(0, 0, 2, 1), 35000);
        due.is("best(0, 0, 2, 2)", x.best(0, 0, 2, 2), 30000);
        due.is("best(0, 3, 2, 1)", x.best(0, 3, 2, 1), 41000);
        due.is("best(0, 3, 2, 2)", x.best(0, 3, 2, 2), 33000);
        due.is("best(0, 3, 2, 0)", x.best(0, 3, 2, 0), 41000);
        x.days(1);
        // 900000: 15000; a LOOK costs 5000 and 100000 x 7000, behind it is 900000 either way.
        due.is("best(0, 0, 2, 2)", x.best(0, 0, 2, 2), 15000 - 5000 - 700 + 15000);
        due.is("best(0, 200, 8, 0) is of NOT", x.best(0, 200, 8, 0), x.best(0, 200, 8, 1));
        unmended();
        refused();
    }

    private static void unmended() {
        GateWatch x = Due.with("heal 250 d=0;well 10;bad 20;look 1", 1);
        due.is("seen", x.seen(0, false), 1000000);
        // -20000, then 250000: 2500 less 15000; a LOOK behind which it is seen ILL again.
        due.is("best(0, 0, 2, 1)", x.best(0, 0, 2, 1), -32500);
        due.is("best(0, 0, 2, 2)", x.best(0, 0, 2, 2), -33500);
        x.days(2);
        due.is("KNOWN", x.of(0, 2), 250000);
        due.is("best(0, 2, 1, 0)", x.best(0, 2, 1, 0), 2000 - 12500);
        // Behind WELL 10000 and 2000; behind ILL 250000: -12500 and 2000.
        due.is("best(0, 2, 2, 2)", x.best(0, 2, 2, 2), -12500 - 1000 + 3000 - 7875);
        GateWatch y = Due.with("ill 1 d=0;bad 1;look 0;mend 1", 1);
        y.days(1);
        // 999000: 0 less 1; mending -1000 x 1000 / 1000000 is -1.
        due.is("KNOWN", y.of(0, 2), 999000);
        due.is("best(0, 0, 1, 2)", y.best(0, 0, 1, 2), -2);
        GateWatch z = Due.with("ill 1 d<9;mend 1", 1);
        z.days(2);
        // 998001, so -1999000000 / 1000000 is cut toward 0.
        due.is("KNOWN", z.of(0, 2), 998001);
        due.is("best(0, 0, 1, 2)", z.best(0, 0, 1, 2), -1);
    }

    private static void refused() {
        GateWatch x = Due.with("well 1", 1);
        String state = Due.state(x);
        due.is("best(1, 0, 1, 0)", x.best(1, 0, 1, 0), GateWatch.NO);
        due.is("best(-1, 0, 1, 0)", x.best(-1, 0, 1, 0), GateWatch.NO);
        due.is("best(0, -1, 1, 0)", x.best(0, -1, 1, 0), GateWatch.NO);
        due.is("best(0, 201, 1, 0)", x.best(0, 201, 1, 0), GateWatch.NO);
        due.is("best(0, 0, 0, 0)", x.best(0, 0, 0, 0), GateWatch.NO);
        due.is("best(0, 0, 9, 0)", x.best(0, 0, 9, 0), GateWatch.NO);
        due.is("best(0, 0, 1, 3)", x.best(0, 0, 1, 3), GateWatch.NO);
        due.is("best(0, 0, 1, -1)", x.best(0, 0, 1, -1), GateWatch.NO);
        due.is("best(0, 200, 8, 0)", x.best(0, 200, 8, 0), 8 * 201000);
        due.is("nothing changed", Due.state(x).equals(state) ? 1 : 0, 1);
    }

    /** Seen ILL, and mended by a LOOK for good: each DAY more makes the LOOK worth 50 more. */
    private static void number() {
        due.promise(10);
        GateWatch x = Due.with("well 20;bad 30;look 5;mend 7", 1);
        due.is("number(0, 3)", x.number(0, 3), 0);
        x.seen(0, false);
        int[] numbers = {0, 38, 88, 138, 188, -5, -5, -5};
        for (int n = 1; n <= 8; n++) {
            due.is("number(0, " + n + ")", x.number(0, n), numbers[n - 1]);
        }
        due.is("alike is enough", x.best(0, 38, 2, 1) - x.best(0, 38, 2, 2), 0);
        due.is("number(0, 0)", x.number(0, 0), GateWatch.BAD);
        due.is("number(0, 9)", x.number(0, 9), GateWatch.BAD);
        due.is("number(1, 0)", x.number(1, 0), GateWatch.NONE);
        due.is("number(-1, 1)", x.number(-1, 1), GateWatch.NONE);
    }

    private static void such() {
        due.promise(11);
        GateWatch x = Due.with("well 20;bad 30;look 5;mend 7", 1);
        x.seen(0, false);
        due.is("such(0, 1)", x.such(0, 1), 1);
        due.is("such(0, 5)", x.such(0, 5), 1);
        due.is("such(0, 6)", x.such(0, 6), -5);
        due.is("such(0, 0)", x.such(0, 0), GateWatch.BAD);
        due.is("such(0, 9)", x.such(0, 9), GateWatch.BAD);
        due.is("such(1, 9)", x.such(1, 9), GateWatch.NONE);
        // Found by trying many: worse again at many wages, at the next one alone, at 200 alone, and alike again.
        such("ill 748 d<4;heal 791 d<3;well 55;bad 196;look 24", 2, 3, 0);
        such("ill 626 d<4;heal 669 d<3;well 70;bad 76;look 7", 2, 3, 0);
        such("ill 939 d<3;heal 614 d=1;well 818;bad 548;look 20;mend 185", 3, 4, 0);
        such("ill 989 d<5;heal 176 d<2;well 183;bad 78;look 18", 1, 3, 1);
    }

    private static void such(String sort, int days, int n, int want) {
        GateWatch x = Due.with(sort, 1);
        x.days(days);
        int least = -5;
        int so = 1;
        for (int w = 0; w <= 200; w++) {
            boolean enough = x.best(0, w, n, 1) >= x.best(0, w, n, 2);
            so = least >= 0 && !enough ? 0 : so;
            least = least < 0 && enough ? w : least;
        }
        due.is("number(0, " + n + ") of " + sort, x.number(0, n), least);
        due.is("such(0, " + n + ") of " + sort, x.such(0, n), want);
        due.is("by best(..) at each wage", so, want);
    }

    public static void main(String[] args) {
        best();
        number();
        such();
        due.end();
    }
}
