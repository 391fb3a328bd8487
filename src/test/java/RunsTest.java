/** Promises 21 to 24: runs, rounds, ways, edges. The numbers were worked out by hand. */
public final class RunsTest {
    private static final Due due = new Due();

    /** DRAWS of seed 0 on DAY 0: 91 of thing 0, 140 of thing 1; on DAY 1: 210 and 259. */
    private static void run() {
        due.promise(21);
        GateWatch turns = Due.with("ill 92 k<100;well 20;bad 30;look 5", 1);
        turns.plan(6, 0);
        due.is("run(0, 2, 0)", turns.run(0, 2, 0), 20000 - 30000);
        due.is("NOW", turns.count(3), 2);
        // 908000 x 908 / 1000
        due.is("KNOWN", turns.of(0, 2), 824464);
        due.is("d", turns.of(0, 3), 2);
        GateWatch stays = Due.with("ill 91 k<100;well 20;bad 30;look 5", 1);
        stays.plan(6, 0);
        due.is("91 is not below 91", stays.run(0, 2, 0), 40000);
        GateWatch second = Due.with("ill 140 k<100;ill 1 k=10;well 20;bad 30", 2);
        second.plan(6, 0);
        due.is("both turn", second.run(0, 2, 0), 40000 - 60000);
        GateWatch seeds = Due.with("ill 308 k=10;ill 309 k=20;bad 30", 3);
        seeds.plan(6, 0);
        // Seed 1: 308 of thing 1, 357 of thing 2: neither turns.
        due.is("seed 1", seeds.run(0, 2, 1), 0);
        GateWatch heals = Due.with("heal 210 k=0;heal 260 k=10;well 20;bad 30", 2);
        heals.plan(6, 0);
        heals.seen(0, false);
        heals.seen(1, false);
        // DAY 0: both heal (91, 140); then there is no way back.
        due.is("heal", heals.run(0, 2, 0), -60000 + 40000);
        looked();
        refused();
    }

    private static void looked() {
        GateWatch x = Due.with(Due.STEADY, 1);
        x.plan(0, 0);
        x.seen(0, false);
        due.is("mended, but bad ahead of it", x.run(0, 1, 0), -30000 - 5000 - 7000);
        due.is("KNOWN", x.of(0, 2), 1000000);
        due.is("d", x.of(0, 3), 1);
        due.is("showed ILL", x.of(0, 5), 1);
        due.is("showed WELL", x.of(0, 4), 0);
        due.is("WELL from then on", x.run(0, 3, 0), 45000);
        due.is("showed WELL", x.of(0, 4), 3);
        GateWatch y = Due.with("ill 999 d=0;ill 1 d=0;well 20;bad 30;look 5", 1);
        y.plan(0, 0);
        y.plan(6, 0);
        y.days(1);
        due.is("KNOWN, but nothing turned", y.of(0, 2), 0);
        due.is("d 1 ahead of the end", y.run(1, 1, 0), 20000);
        due.is("looked at: d 0", y.run(0, 2, 0), 15000 - 35000);
        due.is("KNOWN", y.of(0, 2), 0);
        due.is("counts", y.of(0, 4) * 10 + y.of(0, 5), 11);
        GateWatch z = Due.with("ill 999 d=0;ill 1 d=0;heal 500 d>0;mend 1", 1);
        z.plan(0, 0);
        z.seen(0, false);
        due.is("mended, then turned by d 0", z.run(0, 2, 0), -2000);
        due.is("showed ILL twice", z.of(0, 5), 2);
    }

    private static void refused() {
        GateWatch x = Due.with(Due.STEADY, 1);
        x.plan(0, 0);
        x.days(1);
        String state = Due.state(x);
        due.is("run(1, 1, 0)", x.run(1, 1, 0), GateWatch.NO);
        due.is("run(-1, 1, 0)", x.run(-1, 1, 0), GateWatch.NO);
        due.is("run(0, 0, 0)", x.run(0, 0, 0), GateWatch.NO);
        due.is("run(0, 31, 0)", x.run(0, 31, 0), GateWatch.NO);
        due.is("run(0, 1, -1)", x.run(0, 1, -1), GateWatch.NO);
        due.is("run(0, 1, 1000)", x.run(0, 1, 1000), GateWatch.NO);
        due.is("nothing changed", Due.state(x).equals(state) ? 1 : 0, 1);
        for (int i = 0; i < 33; i++) {
            due.is("run(0, 30, 999)", x.run(0, 30, 999), 450000);
        }
        due.is("NOW", x.count(3), 991);
        due.is("run(0, 9, 0)", x.run(0, 9, 0), GateWatch.NO);
        due.is("run(0, 8, 0)", x.run(0, 8, 0), 120000);
        due.is("run(0, 1, 0)", x.run(0, 1, 0), GateWatch.NO);
        due.is("mean goes beyond", x.mean(0, 3), 45000);
    }

    private static void round() {
        due.promise(22);
        GateWatch x = Due.with(Due.STEADY, 2);
        x.seen(1, false);
        x.looks(2);
        // Thing 1 is mended on the first DAY: -22, 35, 35; a row of thing 0 alone: -15 thrice.
        due.is("round(1, -1)", x.round(1, -1), 48000);
        due.is("round(1, 0)", x.round(1, 0), 1);
        due.is("round(2, -1)", x.round(2, -1), 48000);
        due.is("round(2, 0)", x.round(2, 0), 1);
        due.is("round(2, 1)", x.round(2, 1), 0);
        due.is("round(3, 0)", x.round(3, 0), 1);
        due.is("round(3, 1)", x.round(3, 1), 0);
        due.is("round(3, 2)", x.round(3, 2), 0);
        due.is("round(0, -1)", x.round(0, -1), GateWatch.NO);
        due.is("round(4, -1)", x.round(4, -1), GateWatch.NO);
        due.is("round(2, 2)", x.round(2, 2), GateWatch.NO);
        due.is("round(2, -2)", x.round(2, -2), GateWatch.NO);
        due.is("of no THINGS", new GateWatch().round(1, -1), GateWatch.NO);
        x.seen(0, false);
        // Both ILL: -72, -22 or -62, 35 or -22; the first of a round of two comes twice.
        due.is("round(2, -1)", x.round(2, -1), -72000 - 22000 + 35000);
        due.is("round(2, 0)", x.round(2, 0), 0);
        due.is("round(2, 1)", x.round(2, 1), 1);
        due.is("round(1, -1)", x.round(1, -1), -72000 - 15000 - 15000);
        due.is("one THING, three of a row", Due.with(Due.STEADY, 1).round(3, 2), 0);
        roundFromNow();
    }

    private static void roundFromNow() {
        GateWatch x = Due.with(Due.STEADY, 2);
        x.days(1);
        x.seen(1, false);
        due.is("the first of the row NOW", x.round(2, 0), 1);
        due.is("the MEAN", x.round(2, -1), 48000);
    }

    private static void tour() {
        due.promise(23);
        GateWatch x = new GateWatch();
        Due.sort(x, Due.STEADY);
        x.thing(0, 10);
        x.thing(0, 20);
        x.thing(0, 99);
        x.thing(0, 0);
        x.seen(0, false);
        x.seen(1, false);
        // NUMBERS by 2 are 38, 38, 0, 0.
        due.is("tour(200, 2)", x.tour(200, 2), 1);
        x.looks(2);
        due.is("tour(200, 2)", x.tour(200, 2), 3);
        due.is("tour(40, 2)", x.tour(40, 2), 3);
        due.is("tour(39, 2)", x.tour(39, 2), 1);
        due.is("tour(20, 2)", x.tour(20, 2), 1);
        due.is("tour(19, 2)", x.tour(19, 2), 0);
        x.seen(2, false);
        due.is("of several the least", x.tour(200, 2), 3);
        due.is("too far", x.tour(197, 2), 3);
        x.looks(3);
        due.is("tour(198, 2)", x.tour(198, 2), 7);
        due.is("-5 counts as 201", x.tour(198, 6), 7);
        x.looks(1);
        due.is("-5 counts as 201", x.tour(30, 8), 1);
        due.is("by n 1 all are 0", x.tour(200, 1), 0);
        due.is("tour(-1, 1)", x.tour(-1, 1), GateWatch.BAD);
        due.is("tour(201, 1)", x.tour(201, 1), GateWatch.BAD);
        due.is("tour(0, 0)", x.tour(0, 0), GateWatch.BAD);
        due.is("tour(0, 9)", x.tour(0, 9), GateWatch.BAD);
    }

    /** Two THINGS seen ILL whose NUMBER by 2 is 38 less a twentieth of ill, rounded up. */
    private static GateWatch ills(int ill) {
        GateWatch x = Due.with("ill " + ill + " k<100;" + Due.STEADY, 2);
        x.seen(0, false);
        x.seen(1, false);
        return x;
    }

    private static void edge() {
        due.promise(24);
        GateWatch x = ills(110);
        due.is("number(0, 2)", x.number(0, 2), 33);
        // 120 makes it 32, and thing 1 has the greatest; 99 makes it 34.
        due.is("more of thing 0", x.edge(0, 2), 10);
        due.is("less of thing 1", x.edge(1, 2), -11);
        due.is("KNOWN is as it was", x.of(0, 2), 0);
        due.is("number(0, 2)", x.number(0, 2), 33);
        due.is("number(1, 2)", x.number(1, 2), 33);
        due.is("less of thing 1 at once", ills(100).edge(1, 2), -1);
        due.is("20 more of thing 0", ills(0).edge(0, 2), 20);
        due.is("none below 0", ills(0).edge(1, 2), 0);
        due.is("by 1 nothing counts", x.edge(0, 1), 0);
        due.is("edge(2, 0)", x.edge(2, 0), GateWatch.NONE);
        due.is("edge(-1, 1)", x.edge(-1, 1), GateWatch.NONE);
        due.is("edge(0, 0)", x.edge(0, 0), GateWatch.BAD);
        due.is("edge(0, 5)", x.edge(0, 5), GateWatch.BAD);
        GateWatch one = Due.with(Due.STEADY, 1);
        due.is("one alone, n 5", one.edge(0, 5), GateWatch.BAD);
        due.is("one alone", one.edge(0, 1), GateWatch.STATE);
        slowEdge();
        lessFirst();
    }

    /** By the cuts alone, the NUMBER is 1 with ill 48 and 62, and 0 with all others near 55. */
    private static void lessFirst() {
        GateWatch x = Due.with("ill 55 k<100;well 4;bad 17;look 0", 2);
        x.days(1);
        due.is("number(1, 3)", x.number(1, 3), 0);
        due.is("7 less ahead of 7 more", x.edge(1, 3), -7);
        due.is("the first stays the first", x.edge(0, 3), 0);
    }

    /** The NUMBER is 13 less a fiftieth of ill here, so up to 50 may be needed. */
    private static void slowEdge() {
        String slow = ";well 10;bad 10;look 1;mend 6";
        int[] ills = {120, 121, 149};
        int[] changes = {30, 29, 1};
        for (int i = 0; i < ills.length; i++) {
            GateWatch x = Due.with("ill " + ills[i] + " k<100" + slow, 2);
            x.seen(0, false);
            x.seen(1, false);
            due.is("number(0, 2)", x.number(0, 2), 11);
            due.is("edge(0, 2) by ill " + ills[i], x.edge(0, 2), changes[i]);
        }
        GateWatch x = Due.with("ill 119 k<100" + slow, 2);
        x.seen(0, false);
        x.seen(1, false);
        due.is("none up to 30", x.edge(0, 2), 0);
    }

    public static void main(String[] args) {
        run();
        round();
        tour();
        edge();
        due.end();
    }
}
