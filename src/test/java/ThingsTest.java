/** Promises 1 to 8: the new object, sorts and things. */
public final class ThingsTest {
    private static final Due due = new Due();

    private static void newObject() {
        due.promise(1);
        GateWatch x = new GateWatch();
        int[] counts = {0, 0, 0, 0, 1, 0, 0};
        for (int what = 0; what < counts.length; what++) {
            due.is("count(" + what + ")", x.count(what), counts[what]);
        }
        due.is("told(0, 0, 0, 2)", x.told(0, 0, 0, 2), GateWatch.NONE);
        due.is("of(0, 0)", x.of(0, 0), GateWatch.NONE);
        due.is("whom(0)", x.whom(0), GateWatch.NONE);
        due.is("undo()", x.undo(), GateWatch.STATE);
        due.is("trace(0)", x.trace(0), GateWatch.NONE);
        due.is("bound(3)", x.bound(3), 0);
        due.is("tour(10, 2)", x.tour(10, 2), 0);
        due.is("another's sorts", Due.sort(new GateWatch(), "well 1"), 0);
        due.is("count(0)", x.count(0), 0);
        due.is("NO", GateWatch.NO, Long.MIN_VALUE);
    }

    private static void feed() {
        due.promise(2);
        GateWatch x = new GateWatch();
        due.is("feed(0, 0)", x.feed(0, 0), GateWatch.BAD);
        due.is("feed(0, 9)", x.feed(0, 9), GateWatch.BAD);
        due.is("feed(0, -1)", x.feed(0, -1), GateWatch.BAD);
        due.is("count(5)", x.count(5), 0);
        // Only the lowest bytes count: what stands above them is left out.
        due.is("feed", x.feed(0x7f7f7f7f00000000L | Due.packed("well"), 4), 4);
        due.is("feed", x.feed(Due.packed(" 25"), 3), 7);
        due.is("sort()", x.sort(), 0);
        due.is("told(0, 0, 0, 2)", x.told(0, 0, 0, 2), 25);
        for (int i = 1; i <= 14; i++) {
            due.is("feed of 8", x.feed(i, 8), 8 * i);
        }
        due.is("feed of 7", x.feed(0, 7), 119);
        due.is("feed of 2", x.feed(0, 2), GateWatch.FULL);
        due.is("feed of 9", x.feed(0, 9), GateWatch.BAD);
        due.is("feed of 1", x.feed(0, 1), 120);
        due.is("feed of 1", x.feed(0, 1), GateWatch.FULL);
        due.is("count(5)", x.count(5), 120);
    }

    private static void fault(String text, int place) {
        GateWatch x = new GateWatch();
        due.is("'" + text + "'", Due.sort(x, text), -10 - place);
        due.is("count(5)", x.count(5), 0);
        due.is("count(0)", x.count(0), 0);
    }

    private static void good(String text) {
        due.is("'" + text + "'", Due.sort(new GateWatch(), text), 0);
    }

    private static void sort() {
        due.promise(3);
        good("well 0");
        good("mend 999");
        good("ill 0 d<0");
        good("heal 7 k>99");
        good("ill 5 d=1|k=2&d>3|!k<4");
        good("ill 5 !!!!!d=1");
        good("ill 5 (((((d=1)))))");
        good("ill 5 !(!(!d=1))&!(!(!d=1))");
        good("bad 1;bad 2;bad 3;bad 4;bad 5;bad 6;bad 7;bad 8;bad 9;bad 0");
        fault("", 0);
        fault("x", 0);
        fault(" well 1", 0);
        fault("w", 1);
        fault("wall 1", 1);
        fault("illl", 3);
        fault("ill", 3);
        fault("ill  5 d=1", 4);
        fault("ill 5d=1", 5);
        fault("ill 5 ", 6);
        fault("ill 5  d=1", 6);
        fault("well 00", 6);
        fault("well 1000", 8);
        fault("well -1", 5);
        fault("well 1 ", 6);
        fault("well 1;", 7);
        fault("well 1;;", 7);
        fault("well 1; bad 1", 7);
        fault("ill 5 e=1", 6);
        fault("ill 5 d", 7);
        fault("ill 5 d1", 7);
        fault("ill 5 d<=1", 8);
        fault("ill 5 d=01", 9);
        fault("ill 5 d=1000", 11);
        fault("ill 5 d=1|", 10);
        fault("ill 5 d=1||d=2", 10);
        fault("ill 5 d=1&&d=2", 10);
        fault("ill 5 (d=1", 10);
        fault("ill 5 (d=1;well 1", 10);
        fault("ill 5 d=1)", 9);
        fault("ill 5 ()", 7);
        fault("ill 5 ((((((d=1))))))", 11);
        fault("ill 5 !(!(!(d=1", 11);
        fault("bad 1;bad 2;bad 3;bad 4;bad 5;bad 6;bad 7;bad 8;bad 9;bad 0;bad 1", 59);
        fault("well 1\u00e9", 6);
        GateWatch x = new GateWatch();
        for (int i = 0; i < 6; i++) {
            due.is("sort()", Due.sort(x, "well " + i), i);
        }
        Due.feed(x, "nothing");
        due.is("a seventh", x.sort(), GateWatch.FULL);
        due.is("count(5)", x.count(5), 7);
        due.is("count(0)", x.count(0), 6);
    }

    private static void told() {
        due.promise(4);
        GateWatch x = new GateWatch();
        Due.sort(x, "ill 600 d<5|d>8&k=3;ill 500 !(d=2|k>9);heal 40 d=1;well 3;well 4;bad 5;look 6");
        due.is("told(0, 0, 0, 0)", x.told(0, 0, 0, 0), 1000);
        due.is("told(0, 2, 0, 0)", x.told(0, 2, 0, 0), 600);
        due.is("told(0, 4, 10, 0)", x.told(0, 4, 10, 0), 600);
        due.is("told(0, 5, 9, 0)", x.told(0, 5, 9, 0), 500);
        due.is("told(0, 5, 10, 0)", x.told(0, 5, 10, 0), 0);
        due.is("told(0, 9, 3, 0)", x.told(0, 9, 3, 0), 1000);
        due.is("told(0, 9, 4, 0)", x.told(0, 9, 4, 0), 500);
        due.is("told(0, 1, 99, 1)", x.told(0, 1, 99, 1), 40);
        due.is("told(0, 999, 99, 1)", x.told(0, 999, 99, 1), 0);
        due.is("told(0, 0, 0, 2)", x.told(0, 0, 0, 2), 4);
        due.is("told(0, 0, 0, 3)", x.told(0, 0, 0, 3), 5);
        due.is("told(0, 0, 0, 4)", x.told(0, 0, 0, 4), 6);
        due.is("told(0, 0, 0, 5)", x.told(0, 0, 0, 5), 0);
        due.is("told(1, ..)", x.told(1, 0, 0, 0), GateWatch.NONE);
        due.is("told(-1, ..)", x.told(-1, 0, 0, 0), GateWatch.NONE);
        due.is("what 6, d bad", x.told(0, -1, 0, 6), GateWatch.NONE);
        due.is("what -1", x.told(0, 0, 0, -1), GateWatch.NONE);
        due.is("d -1", x.told(0, -1, 0, 0), GateWatch.BAD);
        due.is("d 1000", x.told(0, 1000, 0, 2), GateWatch.BAD);
        due.is("k -1", x.told(0, 0, -1, 0), GateWatch.BAD);
        due.is("k 100", x.told(0, 0, 100, 0), GateWatch.BAD);
        deepTests(x);
    }

    /** Parts within parts: what is joined first, and what is turned round. */
    private static void deepTests(GateWatch x) {
        Due.sort(x, "ill 1 d=1|d=2&k=1;ill 10 (d=1|d=2)&k=1;ill 100 !d=1&k=1|!(d=1&k=1)");
        due.is("d 1, k 0", x.told(1, 1, 0, 0), 101);
        due.is("d 1, k 1", x.told(1, 1, 1, 0), 11);
        due.is("d 2, k 1", x.told(1, 2, 1, 0), 111);
        due.is("d 3, k 0", x.told(1, 3, 0, 0), 100);
    }

    private static void thing() {
        due.promise(5);
        GateWatch x = new GateWatch();
        due.is("thing(0, 0)", x.thing(0, 0), GateWatch.NONE);
        Due.sort(x, "well 1");
        due.is("thing(1, 100)", x.thing(1, 100), GateWatch.NONE);
        due.is("thing(-1, 0)", x.thing(-1, 0), GateWatch.NONE);
        due.is("thing(0, 100)", x.thing(0, 100), GateWatch.BAD);
        due.is("thing(0, -1)", x.thing(0, -1), GateWatch.BAD);
        due.is("count(1)", x.count(1), 0);
        for (int t = 0; t < 8; t++) {
            due.is("thing()", x.thing(0, t == 7 ? 99 : t), t);
        }
        due.is("a ninth", x.thing(0, 0), GateWatch.FULL);
        due.is("a ninth, place 100", x.thing(0, 100), GateWatch.BAD);
        due.is("a ninth of sort 1", x.thing(1, 0), GateWatch.NONE);
        due.is("count(1)", x.count(1), 8);
        due.is("of(7, 1)", x.of(7, 1), 99);
    }

    private static void of() {
        due.promise(6);
        GateWatch x = new GateWatch();
        Due.sort(x, "well 1");
        Due.sort(x, "ill 250 k=7");
        x.days(3);
        x.thing(1, 7);
        int[] fresh = {1, 7, 1000000, 0, 0, 0};
        for (int what = 0; what < 6; what++) {
            due.is("of(0, " + what + ")", x.of(0, what), fresh[what]);
        }
        x.days(1);
        due.is("of(0, 2)", x.of(0, 2), 750000);
        due.is("of(0, 3)", x.of(0, 3), 1);
        due.is("of(0, 6)", x.of(0, 6), GateWatch.NONE);
        due.is("of(0, -1)", x.of(0, -1), GateWatch.NONE);
        due.is("of(1, 0)", x.of(1, 0), GateWatch.NONE);
        due.is("of(-1, 0)", x.of(-1, 0), GateWatch.NONE);
    }

    private static void days() {
        due.promise(7);
        GateWatch x = new GateWatch();
        Due.sort(x, "ill 333 d<2;heal 111 d>0");
        x.thing(0, 0);
        due.is("days(0)", x.days(0), GateWatch.BAD);
        due.is("days(21)", x.days(21), GateWatch.BAD);
        due.is("days(-1)", x.days(-1), GateWatch.BAD);
        due.is("days(1)", x.days(1), 1);
        due.is("KNOWN", x.of(0, 2), 667000);
        due.is("days(1)", x.days(1), 2);
        // 667000 x 667 / 1000 and 333000 x 111 / 1000
        due.is("KNOWN", x.of(0, 2), 444889 + 36963);
        due.is("days(1)", x.days(1), 3);
        // each part is cut by itself: 481852 stays, 518148 x 111 / 1000 = 57514.4
        due.is("KNOWN", x.of(0, 2), 481852 + 57514);
        due.is("days(20)", x.days(20), 23);
        due.is("d", x.of(0, 3), 23);
        for (int now = 43; now <= 983; now += 20) {
            due.is("days(20)", x.days(20), now);
        }
        due.is("days(17)", x.days(17), GateWatch.BAD);
        due.is("count(3)", x.count(3), 983);
        due.is("days(16)", x.days(16), 999);
        due.is("d", x.of(0, 3), 999);
        due.is("days(1)", x.days(1), GateWatch.BAD);
        due.is("d", x.of(0, 3), 999);
    }

    private static void seen() {
        due.promise(8);
        GateWatch x = new GateWatch();
        Due.sort(x, "ill 500 d<9;mend 5;well 1;bad 2");
        x.thing(0, 0);
        x.plan(6, 0);
        x.days(2);
        due.is("seen(0, true)", x.seen(0, true), 250000);
        due.is("KNOWN", x.of(0, 2), 1000000);
        due.is("d", x.of(0, 3), 0);
        x.days(1);
        due.is("seen(0, false)", x.seen(0, false), 500000);
        due.is("KNOWN, not mended", x.of(0, 2), 0);
        due.is("d", x.of(0, 3), 0);
        due.is("counts", x.of(0, 4) + x.of(0, 5), 0);
        due.is("count(3)", x.count(3), 3);
        due.is("it is ILL", x.run(0, 1, 999), -2000);
        due.is("seen(0, true)", x.seen(0, true), 0);
        due.is("it is WELL", x.run(0, 1, 999), 1000);
        due.is("seen(1, true)", x.seen(1, true), GateWatch.NONE);
        due.is("seen(-1, true)", x.seen(-1, true), GateWatch.NONE);
    }

    public static void main(String[] args) {
        newObject();
        feed();
        sort();
        told();
        thing();
        of();
        days();
        seen();
        due.end();
    }
}
