/** Promises 12 to 20: plans and what they bring. The numbers were worked out by hand. */
public final class PlansTest {
    private static final Due due = new Due();

    /** One THING that is WELL and one that is ILL. */
    private static GateWatch wellAndIll() {
        GateWatch x = Due.with(Due.STEADY, 2);
        x.seen(1, false);
        return x;
    }

    private static void looks() {
        due.promise(12);
        GateWatch x = Due.with(Due.STEADY, 2);
        x.plan(0, 0);
        due.is("whom(0)", x.whom(0), 1);
        due.is("looks(3)", x.looks(3), 1);
        due.is("all of fewer", x.whom(0), 3);
        due.is("looks(2)", x.looks(2), 3);
        due.is("looks(0)", x.looks(0), GateWatch.BAD);
        due.is("looks(4)", x.looks(4), GateWatch.BAD);
        due.is("count(4)", x.count(4), 2);
        due.is("mean(0, 1)", x.mean(0, 1), 30000);
    }

    private static void plan() {
        due.promise(13);
        GateWatch x = new GateWatch();
        due.is("plan(7, 100)", x.plan(7, 100), GateWatch.NONE);
        due.is("plan(-1, 0)", x.plan(-1, 0), GateWatch.NONE);
        due.is("plan(0, -1)", x.plan(0, -1), GateWatch.BAD);
        due.is("plan(0, 100)", x.plan(0, 100), GateWatch.BAD);
        due.is("count(2)", x.count(2), 0);
        for (int p = 0; p < 12; p++) {
            due.is("plan()", x.plan(p % 7, 99 - p), p);
        }
        due.is("a thirteenth", x.plan(0, 0), GateWatch.FULL);
        due.is("a thirteenth, v 100", x.plan(0, 100), GateWatch.BAD);
        due.is("a thirteenth, kind 7", x.plan(7, 0), GateWatch.NONE);
        due.is("count(2)", x.count(2), 12);
        due.is("its v", x.as(11, 4), 88);
        due.is("whom of no THINGS", x.whom(2), 0);
        due.is("mean of no THINGS", x.mean(4, 3), 0);
    }

    private static void row() {
        due.promise(14);
        GateWatch x = Due.with(Due.STEADY, 3);
        x.plan(6, 0);
        x.plan(5, 0);
        due.is("row(2, 8)", x.row(2, 8), GateWatch.NONE);
        due.is("row(-1, 0)", x.row(-1, 0), GateWatch.NONE);
        due.is("row(1, 8)", x.row(1, 8), GateWatch.BAD);
        due.is("row(0, -1)", x.row(0, -1), GateWatch.BAD);
        due.is("row(1, 7)", x.row(1, 7), GateWatch.STATE);
        for (int n = 1; n <= 10; n++) {
            due.is("row(0, ..)", x.row(0, n % 8), n);
        }
        due.is("an eleventh", x.row(0, 1), GateWatch.FULL);
        due.is("an eleventh of 8", x.row(0, 8), GateWatch.BAD);
        due.is("whom(0)", x.whom(0), 1);
        x.days(9);
        due.is("the last of the ROW", x.whom(0), 2);
        x.days(1);
        due.is("again and again", x.whom(0), 1);
    }

    private static void whom() {
        due.promise(15);
        GateWatch x = Due.with(Due.STEADY, 3);
        x.plan(0, 5);
        x.plan(1, 3);
        x.plan(1, 1);
        x.plan(2, 1);
        x.plan(3, 0);
        x.plan(4, 5);
        x.plan(5, 0);
        x.plan(6, 0);
        x.seen(2, false);
        x.days(1);
        x.seen(0, true);
        due.is("PLAN", x.whom(0), 1);
        due.is("NUMBERED by 1", x.whom(1), 1);
        due.is("NUMBERED by 2", x.whom(2), 4);
        due.is("TURN", x.whom(3), 4);
        due.is("NEAR", x.whom(4), 4);
        // 31 and 85 modulo 97 is 19, modulo 3 is 1
        due.is("DRAWN", x.whom(5), 2);
        due.is("FAR", x.whom(6), 2);
        due.is("TOLD with no ROW", x.whom(7), 0);
        x.row(7, 1);
        x.row(7, 7);
        due.is("TOLD", x.whom(7), 1);
        x.looks(2);
        int[] two = {3, 3, 5, 3, 5, 6, 6, 3};
        for (int p = 0; p < 8; p++) {
            due.is("whom(" + p + ") of two", x.whom(p), two[p]);
        }
        x.looks(3);
        for (int p = 0; p < 8; p++) {
            due.is("whom(" + p + ") of all", x.whom(p), 7);
        }
        due.is("whom(8)", x.whom(8), GateWatch.NONE);
        due.is("whom(-1)", x.whom(-1), GateWatch.NONE);
        noneCountsMost();
    }

    /** A NUMBER that is none up to 200 counts as 201: it is ahead of one of 150. */
    private static void noneCountsMost() {
        GateWatch x = new GateWatch();
        Due.sort(x, "well 100;bad 62;look 5;mend 7");
        Due.sort(x, "well 200;bad 200;look 5;mend 7");
        x.thing(0, 0);
        x.thing(1, 0);
        x.seen(0, false);
        x.seen(1, false);
        x.plan(1, 1);
        due.is("number(0, 2)", x.number(0, 2), 150);
        due.is("number(1, 2)", x.number(1, 2), -5);
        due.is("whom(0)", x.whom(0), 2);
        due.is("tour(0, 2)", x.tour(0, 2), 2);
    }

    private static void mean() {
        due.promise(16);
        GateWatch x = Due.with("ill 500 k<100;well 20;bad 30;look 5;mend 7", 1);
        x.plan(0, 0);
        x.plan(6, 0);
        due.is("mean(0, 1)", x.mean(0, 1), 15000);
        x.days(1);
        due.is("unseen", x.mean(1, 1), -5000);
        due.is("unseen, 2 DAYS", x.mean(1, 2), -5000 - 17500);
        due.is("mean(0, 1)", x.mean(0, 1), -13500);
        due.is("mean(0, 2)", x.mean(0, 2), -27000);
        due.is("mean(0, 3)", x.mean(0, 3), -40500);
        due.is("KNOWN is as it was", x.of(0, 2), 500000);
        GateWatch y = wellAndIll();
        y.plan(3, 0);
        y.plan(2, 1);
        // NEAR sees thing 1 first: mended, so then thing 0, of like ones the least.
        due.is("NEAR, 1 DAY", y.mean(0, 1), -22000);
        due.is("NEAR, 3 DAYS", y.mean(0, 3), -22000 + 35000 + 35000);
        due.is("TURN, 2 DAYS", y.mean(1, 2), -22000 + 35000);
        y.looks(2);
        due.is("both looked at", y.mean(0, 2), -10000 - 17000 + 30000);
        due.is("mean(2, 1)", y.mean(2, 1), GateWatch.NO);
        due.is("mean(-1, 1)", y.mean(-1, 1), GateWatch.NO);
        due.is("mean(0, 0)", y.mean(0, 0), GateWatch.NO);
        due.is("mean(0, 4)", y.mean(0, 4), GateWatch.NO);
    }

    private static void all() {
        due.promise(17);
        GateWatch x = wellAndIll();
        due.is("all(1, 0)", x.all(1, 0), -15000);
        due.is("all(1, 1)", x.all(1, 1), 1);
        due.is("all(2, 0)", x.all(2, 0), 13000);
        due.is("all(2, 1)", x.all(2, 1), 2);
        x.looks(2);
        due.is("all(1, 0)", x.all(1, 0), -27000);
        due.is("all(1, 1)", x.all(1, 1), 3);
        x.looks(3);
        due.is("all(1, 1)", x.all(1, 1), 3);
        due.is("all(0, 0)", x.all(0, 0), GateWatch.NO);
        due.is("all(3, 0)", x.all(3, 0), GateWatch.NO);
        due.is("all(1, 2)", x.all(1, 2), GateWatch.NO);
        due.is("all(1, -1)", x.all(1, -1), GateWatch.NO);
        due.is("of no THINGS", new GateWatch().all(1, 0), GateWatch.NO);
        GateWatch y = Due.with(Due.STEADY, 3);
        due.is("of several the least", y.all(2, 1), 1);
        y.looks(2);
        due.is("of several the least", y.all(2, 1), 3);
    }

    private static void loses() {
        due.promise(18);
        GateWatch x = wellAndIll();
        x.plan(0, 0);
        x.plan(3, 0);
        x.plan(6, 0);
        due.is("loses(0, 1)", x.loses(0, 1), 0);
        due.is("loses(0, 2)", x.loses(0, 2), 43000);
        due.is("loses(1, 1)", x.loses(1, 1), 7000);
        due.is("loses(1, 2)", x.loses(1, 2), 0);
        due.is("no LOOK may bring more", x.loses(2, 1), -5000);
        due.is("loses(3, 1)", x.loses(3, 1), GateWatch.NO);
        due.is("loses(0, 0)", x.loses(0, 0), GateWatch.NO);
        due.is("loses(0, 3)", x.loses(0, 3), GateWatch.NO);
        GateWatch y = new GateWatch();
        y.plan(0, 0);
        due.is("of no THINGS", y.loses(0, 1), GateWatch.NO);
    }

    private static void bound() {
        due.promise(19);
        GateWatch x = wellAndIll();
        due.is("bound(1)", x.bound(1), -10000);
        due.is("bound(2)", x.bound(2), 18000);
        x.looks(2);
        // Nobody is unseen: the wage is never paid back, so 0 is the least.
        due.is("bound(1), both looked at", x.bound(1), -10000);
        x.looks(3);
        due.is("bound(1), more than there are", x.bound(1), -10000);
        GateWatch y = Due.with(Due.STEADY, 3);
        for (int t = 0; t < 3; t++) {
            y.seen(t, false);
        }
        // Below 38 each gets w - 22, from there on 2w - 60; 4w are paid back.
        due.is("a wage of 38 is the least", y.bound(2), -104000);
        due.is("bound(0)", y.bound(0), GateWatch.NO);
        due.is("bound(9)", y.bound(9), GateWatch.NO);
        due.is("of no THINGS", new GateWatch().bound(8), 0);
    }

    private static void judged() {
        due.promise(20);
        GateWatch x = Due.with("ill 100 k<100", 2);
        x.plan(6, 0);
        x.plan(0, 0);
        due.is("no ROW", x.judged(0, 1), GateWatch.STATE);
        x.row(0, 1);
        due.is("judged(0, 2)", x.judged(0, 2), -5);
        due.is("judged(0, 3)", x.judged(0, 3), 2);
        due.is("judged(0, 10)", x.judged(0, 10), 2);
        due.is("mean behind it", x.mean(0, 1), 0);
        due.is("judged(0, 2) again", x.judged(0, 2), -5);
        due.is("judged(0, 3) again", x.judged(0, 3), 2);
        x.row(0, 2);
        due.is("one after the other", x.judged(0, 10), -5);
        due.is("judged(2, 0)", x.judged(2, 0), GateWatch.NONE);
        due.is("judged(-1, 1)", x.judged(-1, 1), GateWatch.NONE);
        due.is("judged(1, 0)", x.judged(1, 0), GateWatch.BAD);
        due.is("judged(0, 11)", x.judged(0, 11), GateWatch.BAD);
        due.is("judged(1, 1)", x.judged(1, 1), GateWatch.STATE);
        likely();
    }

    private static void likely() {
        GateWatch half = Due.with("ill 500 k<100", 2);
        half.plan(6, 0);
        half.row(0, 1);
        half.days(1);
        due.is("500000 shows WELL", half.judged(0, 9), 1);
        GateWatch less = Due.with("ill 501 k<100", 2);
        less.plan(6, 0);
        less.row(0, 1);
        less.days(1);
        String state = Due.state(less);
        due.is("499000 shows ILL", less.judged(0, 9), -5);
        due.is("499000 shows ILL again", less.judged(0, 9), -5);
        due.is("nothing changed", Due.state(less).equals(state) ? 1 : 0, 1);
        GateWatch mended = Due.with("ill 501 k<100;mend 1", 2);
        mended.plan(6, 0);
        mended.row(0, 1);
        mended.days(1);
        due.is("mended", mended.judged(0, 9), 1);
        GateWatch none = wellAndIll();
        none.plan(6, 0);
        none.row(0, 0);
        due.is("nobody is looked at", none.judged(0, 1), 0);
        none.row(0, 2);
        due.is("DAY 0 is the first of the ROW", none.judged(0, 1), 0);
        none.days(1);
        due.is("DAY 1 the second; then nobody, and both are WELL", none.judged(0, 9), -5);
    }

    public static void main(String[] args) {
        looks();
        plan();
        row();
        whom();
        mean();
        all();
        loses();
        bound();
        judged();
        due.end();
    }
}
