import java.util.function.ToLongFunction;

/** The boundary cases of ACTS, THE IMAGE and of refusals (terms 3 to 5, promises 25 to 30), a test for each sentence. */
public final class ActBoundaryTest {
    private static final Due due = new Due();
    private static final Refused refused = new Refused(due);
    private static final int MIN = Integer.MIN_VALUE, MAX = Integer.MAX_VALUE;

    private static GateWatch ofAllKinds() {
        GateWatch x = new GateWatch();
        x.plan(0, 3);
        for (int kind = 0; kind <= 6; kind++) {
            x.plan(kind, 10 + kind);
        }
        return x;
    }

    private static void trace(GateWatch x, String call, int... bodies) {
        due.is(call + ", count(6)", x.count(6), bodies.length);
        for (int i = 0; i < bodies.length; i++) {
            due.is(call + ", trace(" + i + ")", x.trace(i), bodies[i]);
        }
        for (int i : new int[] {bodies.length, bodies.length + 1, 19, 20, 21, -1, MIN, MAX}) {
            due.is(call + ", trace(" + i + ")", x.trace(i), GateWatch.NONE);
        }
    }

    // ---- the face

    private static void constants() {
        due.sentence("The public face", "NONE = -1, BAD = -2, STATE = -3, FULL = -4; NO = Long.MIN_VALUE");
        due.is("NONE", GateWatch.NONE, -1);
        due.is("BAD", GateWatch.BAD, -2);
        due.is("STATE", GateWatch.STATE, -3);
        due.is("FULL", GateWatch.FULL, -4);
        due.is("NO", GateWatch.NO, -9223372036854775807L - 1);
    }

    private static void calls512() {
        due.sentence("What it is", "An object is used for at most 512 calls");
        GateWatch x = new GateWatch();
        Due.feed(x, "ill 1 k<100;well 20");
        x.sort();
        x.thing(0, 0);
        x.plan(0, 0);
        // 6 calls till here: 3 of feed, and one of sort, thing and plan each.
        for (int call = 7; call <= 505; call++) {
            due.is("call " + call, x.act(0, 2, call), 2 * call);
        }
        due.is("call 506", x.run(0, 30, 999), 600000);
        due.is("call 507", x.image(), 30);
        due.is("call 508", x.days(20), 50);
        due.is("call 509", x.undo(), 30);
        due.is("call 510", x.of(0, 2), 999000);
        due.is("call 511", x.mean(0, 1), 19980);
        due.is("call 512", x.count(6), 3);
    }

    /** As much as there can be, on the last DAY: what would be more is refused, all else answers. */
    private static void allFull() {
        due.sentence("term 5", "FULL. They change nothing");
        refusedFull("feed(0, 1)", x -> x.feed(0, 1), GateWatch.FULL);
        refusedFull("sort()", x -> x.sort(), GateWatch.FULL);
        refusedFull("thing(5, 99)", x -> x.thing(5, 99), GateWatch.FULL);
        refusedFull("plan(6, 99)", x -> x.plan(6, 99), GateWatch.FULL);
        refusedFull("row(11, 255)", x -> x.row(11, 255), GateWatch.FULL);
        refusedFull("days(1)", x -> x.days(1), GateWatch.BAD);
        refusedFull("run(0, 1, 0)", x -> x.run(0, 1, 0), GateWatch.NO);
        refusedFull("told(6, 0, 0, 0)", x -> x.told(6, 0, 0, 0), GateWatch.NONE);
        refusedFull("thing(6, 0)", x -> x.thing(6, 0), GateWatch.NONE);
        refusedFull("of(8, 0)", x -> x.of(8, 0), GateWatch.NONE);
        refusedFull("seen(8, true)", x -> x.seen(8, true), GateWatch.NONE);
        refusedFull("best(8, 0, 1, 0)", x -> x.best(8, 0, 1, 0), GateWatch.NO);
        refusedFull("number(8, 1)", x -> x.number(8, 1), GateWatch.NONE);
        refusedFull("such(8, 1)", x -> x.such(8, 1), GateWatch.NONE);
        refusedFull("row(12, 0)", x -> x.row(12, 0), GateWatch.NONE);
        refusedFull("row(11, 256)", x -> x.row(11, 256), GateWatch.BAD);
        refusedFull("whom(12)", x -> x.whom(12), GateWatch.NONE);
        refusedFull("mean(12, 1)", x -> x.mean(12, 1), GateWatch.NO);
        refusedFull("loses(12, 1)", x -> x.loses(12, 1), GateWatch.NO);
        refusedFull("judged(12, 1)", x -> x.judged(12, 1), GateWatch.NONE);
        refusedFull("edge(8, 1)", x -> x.edge(8, 1), GateWatch.NONE);
        refusedFull("as(12, 0)", x -> x.as(12, 0), GateWatch.NONE);
        GateWatch x = full();
        due.is("act(12, 0, 7)", x.act(12, 0, 7), 0);
        // On DAY 999: 2997 and 99 is 0 by 8; 30969 and 1683 is 60 by 97, and 4 by 8.
        int[] whom = {7, 7, 7, 7, 16 + 32 + 64, 7, 7};
        for (int kind = 0; kind <= 6; kind++) {
            due.is("whom, KIND " + kind, x.whom(kind == 6 ? 11 : kind), whom[kind]);
        }
        due.is("bound(8), no LOOK is worth it", x.bound(8), 8 * 8 * 20000);
        due.is("all(2, 1)", x.all(2, 1), 7);
        due.is("mean(11, 3)", x.mean(11, 3), 3 * (160000 - 15000));
        due.is("judged(11, 10)", x.judged(11, 10), -5);
        due.is("round(3, -1)", x.round(3, -1), 3 * (160000 - 5000));
        due.is("tour(200, 8)", x.tour(200, 8), 0);
        due.is("edge(7, 4)", x.edge(7, 4), 0);
    }

    private static void refusedFull(String call, ToLongFunction<GateWatch> asked, long want) {
        refused.is(call, ActBoundaryTest::full, asked, want);
    }

    private static GateWatch full() {
        GateWatch x = new GateWatch();
        for (int s = 0; s < 6; s++) {
            Due.sort(x, Due.STEADY);
        }
        for (int t = 0; t < 8; t++) {
            x.thing(t % 6, 99 - t);
        }
        for (int p = 0; p < 12; p++) {
            x.plan(p < 11 ? p % 7 : 6, 99);
        }
        for (int n = 0; n < 10; n++) {
            x.row(11, 255);
        }
        for (int i = 0; i < 15; i++) {
            x.feed(0, 8);
        }
        x.looks(3);
        for (int day = 0; day < 980; day += 20) {
            x.days(20);
        }
        x.days(19);
        return x;
    }

    // ---- acts

    private static void wraps() {
        due.sentence("term 3", "ACTS of a PLAN with x (ints, wrapping)");
        GateWatch x = ofAllKinds();
        due.is("MAX and 1", x.act(1, 0, MAX), MIN);
        due.is("MIN and 1", x.act(1, 0, MIN), MIN + 1);
        due.is("MIN, 1 and less 10", x.act(1, 1, MIN), MIN + 1 - 10);
        due.is("twice that", x.act(1, 2, MIN), -18);
        due.is("3 times MAX", x.act(2, 0, MAX), MAX - 2 + 2);
        due.is("3 times MIN", x.act(2, 0, MIN), MIN + 2);
        due.is("less of MIN is MIN", x.act(4, 2, (1 << 30) + 9), MIN);
        due.is("MAX and 1, then 5", x.act(5, 2, MAX), (MIN + 5 - 14 ^ 5) * 2 + 2 + 5);
        due.is("MAX, i and v", x.act(7, 0, MAX), MIN + 6 + 16);
    }

    private static void mostBodies() {
        due.sentence("term 3", "THE TRACE: the numbers of the bodies that ran in the latest act(), as they began; the first 20 are kept");
        // No act runs more than 6 bodies: each of them is kept, and nothing stands behind the last.
        GateWatch x = ofAllKinds();
        x.act(5, 2, 7);
        trace(x, "ends of DRAWN", 41, 3, 21, 2, 1, 1);
        x.act(6, 2, 7);
        trace(x, "ends of FAR", 31, 3, 51, 2, 1);
        x.act(4, 2, 7);
        trace(x, "ends of NEAR", 31, 3, 2, 1);
        x.act(3, 2, 7);
        trace(x, "ends of TURN", 3, 21, 2, 1);
        x.act(2, 2, 7);
        trace(x, "ends of NUMBERED", 3, 2, 11, 1);
        x.act(7, 2, 7);
        trace(x, "ends of TOLD", 3, 2, 61, 1);
        x.act(1, 2, 7);
        trace(x, "ends of PLAN", 3, 2, 1);
        x.act(1, 0, 7);
        trace(x, "means of PLAN", 1);
        due.sentence("term 3", "the latest act()");
        x.plan(0, 0);
        x.whom(0);
        x.mean(0, 1);
        x.count(0);
        x.image();
        x.undo();
        trace(x, "other calls behind it", 1);
    }

    private static void nextAbove() {
        due.sentence("term 3", "the body of its KIND, or, if that has none, of the next KIND above that has one");
        GateWatch x = ofAllKinds();
        int[][][] bodies = {{{1}, {2, 1}}, {{11, 1}, {2, 11, 1}}, {{1}, {21, 2, 1}}, {{1}, {2, 1}}, {{1}, {21, 2, 1}},
            {{1}, {51, 2, 1}}, {{61, 1}, {2, 61, 1}}};
        int[][] answers = {{8, 8 - 10}, {23, 23 - 11}, {10, 10 - 12 ^ 5}, {11, 11 - 13}, {12, 12 - 14 ^ 5}, {13, 13 - 15 ^ 6},
            {30, 30 - 16}};
        int[] ends = {-4, 24, (10 - 12 ^ 5) * 2, 4, (13 - 14 ^ 5) * 2 + 7, -((13 - 15 ^ 6) * 2), 28};
        for (int kind = 0; kind <= 6; kind++) {
            due.is("ends of KIND " + kind, x.act(1 + kind, 2, 7), ends[kind]);
            for (int act = 0; act <= 1; act++) {
                due.is("act " + act + " of KIND " + kind, x.act(1 + kind, act, 7), answers[kind][act]);
                trace(x, "act " + act + " of KIND " + kind, bodies[kind][act]);
            }
        }
    }

    private static void fromTheLeft() {
        due.sentence("term 3", "super.means(..): so from the KIND above the body's on; what stands in a body is done from the left on");
        GateWatch x = ofAllKinds();
        // super.ends first, whose rows are TURN's again; then means(2), for which DRAWN and TURN have no body.
        due.is("ends of DRAWN", x.act(5, 2, 0), (0 + 1 + 5 - 14 ^ 5) * 2 + 2 + 5);
        trace(x, "ends of DRAWN", 41, 3, 21, 2, 1, 1);
        // NEAR, the KIND above FAR's, has no rows: PLAN's.
        due.is("rows of FAR", x.act(6, 1, 0), 0 + 6 - 15 ^ 6);
        trace(x, "rows of FAR", 51, 2, 1);
    }

    private static void noSuchAct() {
        due.sentence("promise 25", "An ACT (0 means, 1 rows, 2 ends) of a PLAN with x. 0, and no TRACE then: no such PLAN, act");
        int[][] asked = {{8, 0}, {-1, 0}, {12, 2}, {MIN, 1}, {MAX, 1}, {0, 3}, {0, -1}, {5, MIN}, {5, MAX}, {8, 3}};
        for (int[] a : asked) {
            String call = "act(" + a[0] + ", " + a[1] + ", 7)";
            GateWatch x = ofAllKinds();
            x.act(5, 2, 7);
            due.is(call, x.act(a[0], a[1], 7), 0);
            trace(x, call);
            due.is(call + ", and then another", x.act(7, 0, 7), 7 + 7 - 1 + 1 + 16);
            trace(x, "another", 61, 1);
        }
        due.sentence("term 5", "They change nothing");
        GateWatch x = Refused.rich();
        String state = Due.state(x);
        x.act(8, 0, 7);
        x.act(0, 3, 7);
        due.is("but THE TRACE", Due.state(x).equals(state) ? 1 : 0, 1);
        due.is("THE IMAGE is there still", x.undo(), 2);
    }

    private static void traceEnds() {
        due.sentence("promise 26", "THE TRACE's i-th body. NONE");
        GateWatch x = Refused.rich();
        due.is("the first", x.trace(0), 41);
        due.is("the last", x.trace(5), 1);
        for (int i : new int[] {6, 7, 19, 20, 21, -1, MIN, MAX}) {
            refused.is("trace(" + i + ")", y -> y.trace(i), GateWatch.NONE);
        }
        trace(new GateWatch(), "a new object");
    }

    private static void as() {
        due.sentence("promise 27", "A PLAN taken for a KIND k (0 .. 6), or one under that: its v .. -6: it is of another KIND");
        int[][] of = {{0}, {0, 1}, {0, 2}, {0, 3}, {0, 2, 4}, {0, 3, 5}, {0, 6}};
        GateWatch x = ofAllKinds();
        for (int kind = 0; kind <= 6; kind++) {
            for (int k = 0; k <= 6; k++) {
                int want = -6;
                for (int above : of[kind]) {
                    want = above == k ? 10 + kind : want;
                }
                due.is("as(" + (kind + 1) + ", " + k + ")", x.as(kind + 1, k), want);
            }
        }
        x.plan(4, 0);
        x.plan(4, 99);
        due.is("v 0", x.as(8, 2), 0);
        due.is("v 99", x.as(9, 4), 99);
        due.sentence("promise 27", "NONE: plan, k");
        for (int plan : new int[] {8, -1, 12, MIN, MAX}) {
            refused.is("as(" + plan + ", 0)", y -> y.as(plan, 0), GateWatch.NONE);
        }
        for (int k : new int[] {7, -1, MIN, MAX}) {
            refused.is("as(0, " + k + ")", y -> y.as(0, k), GateWatch.NONE);
        }
        refused.is("of another KIND", y -> y.as(0, 6), -6);
    }

    // ---- THE IMAGE

    private static void noImage() {
        due.sentence("promise 29", "STATE: there is none");
        due.is("of a new object", new GateWatch().undo(), GateWatch.STATE);
        refused.is("undo()", ActBoundaryTest::ofAllKinds, x -> x.undo(), GateWatch.STATE);
        refused.is("undo() of all there can be", ActBoundaryTest::full, x -> x.undo(), GateWatch.STATE);
        GateWatch x = ofAllKinds();
        x.undo();
        x.days(3);
        due.is("a refused undo takes none", x.undo(), GateWatch.STATE);
    }

    private static void imageOfNothing() {
        due.sentence("promise 28", "THE IMAGE is taken: NOW");
        GateWatch x = new GateWatch();
        due.is("of nothing", x.image(), 0);
        Due.sort(x, "well 1");
        x.thing(0, 0);
        x.plan(0, 0);
        x.looks(3);
        x.days(20);
        Due.feed(x, "well");
        due.is("undo()", x.undo(), 0);
        int[] counts = {0, 0, 0, 0, 1, 0, 0};
        for (int what = 0; what <= 6; what++) {
            due.is("nothing is there: count(" + what + ")", x.count(what), counts[what]);
        }
        due.is("a SORT is the first again", Due.sort(x, "well 7"), 0);
        due.is("told(0, 0, 0, 2)", x.told(0, 0, 0, 2), 7);
    }

    private static void imageStays() {
        due.sentence("term 4", "THE IMAGE: all that there is (but THE IMAGE, THE TRACE)");
        GateWatch x = Refused.rich();
        x.sort();
        Due.feed(x, "well 12");
        due.is("image()", x.image(), 6);
        String state = Due.state(x);
        long brings = x.run(3, 25, 77);
        for (int again = 0; again < 2; again++) {
            x.sort();
            x.thing(0, 50);
            x.seen(again, again == 0);
            x.plan(6, 50);
            x.row(6, 7);
            x.looks(3);
            x.days(5);
            x.act(1, 0, again);
            due.is("changed", Due.state(x).equals(state) ? 1 : 0, 0);
            due.is("undo()", x.undo(), 6);
            due.is("as it was", Due.state(x).equals(state) ? 1 : 0, 1);
            due.is("THE TRACE stays", x.count(6) * 100 + x.trace(0), 211);
            due.is("unseen, too", x.run(3, 25, 77), brings);
        }
        x.undo();
        due.is("undo() of nothing new", x.undo(), 6);
        due.is("THE TAPE is as it was", x.sort(), 3);
        due.is("THE TAPE is as it was", x.told(3, 0, 0, 2), 12);
        due.is("the ROW is as it was", x.row(6, 0), 3);
    }

    /** What can't be asked for: THE TAPE's bytes, who is WELL; and COUNTS. */
    private static void imageOfUnseen() {
        due.sentence("term 4", "THE IMAGE: all that there is");
        GateWatch x = Due.with("well 20;bad 30", 3);
        x.plan(0, 0);
        x.plan(6, 0);
        x.seen(1, false);
        x.run(0, 2, 0);
        x.looks(2);
        x.run(0, 3, 0);
        Due.feed(x, "well 12");
        x.image();
        x.seen(0, false);
        x.seen(1, true);
        x.seen(2, false);
        x.run(0, 4, 0);
        x.sort();
        Due.feed(x, "look 9;bad 8");
        x.undo();
        due.is("two are WELL, one ILL", x.run(1, 1, 0), 40000 - 30000);
        due.is("of(0, 4)", x.of(0, 4), 5);
        due.is("of(0, 5)", x.of(0, 5), 0);
        due.is("of(1, 4)", x.of(1, 4), 0);
        due.is("of(1, 5)", x.of(1, 5), 3);
        due.is("sort()", x.sort(), 1);
        due.is("THE TAPE's bytes", x.told(1, 0, 0, 2), 12);
        x.undo();
        due.is("THE IMAGE has them still", x.sort() + x.told(1, 0, 0, 2), 13);
        due.is("who is looked at", x.run(0, 1, 0), 40000 - 30000);
        due.is("shown", x.of(0, 4) * 10 + x.of(1, 5), 64);
    }

    private static void laterIsGone() {
        due.sentence("promise 29", "All is as THE IMAGE");
        GateWatch x = new GateWatch();
        x.image();
        Due.sort(x, "well 1");
        x.thing(0, 0);
        x.thing(0, 0);
        x.plan(6, 7);
        x.row(0, 1);
        x.undo();
        due.is("no such SORT: told", x.told(0, 0, 0, 0), GateWatch.NONE);
        due.is("no such SORT: thing", x.thing(0, 0), GateWatch.NONE);
        due.is("no such THING: of", x.of(0, 0), GateWatch.NONE);
        due.is("no such THING: seen", x.seen(0, true), GateWatch.NONE);
        due.is("no such THING: best", x.best(0, 0, 1, 0), GateWatch.NO);
        due.is("no such THING: number", x.number(0, 1), GateWatch.NONE);
        due.is("no such THING: edge", x.edge(0, 1), GateWatch.NONE);
        due.is("no such PLAN: row", x.row(0, 0), GateWatch.NONE);
        due.is("no such PLAN: whom", x.whom(0), GateWatch.NONE);
        due.is("no such PLAN: mean", x.mean(0, 1), GateWatch.NO);
        due.is("no such PLAN: judged", x.judged(0, 1), GateWatch.NONE);
        due.is("no such PLAN: run", x.run(0, 1, 0), GateWatch.NO);
        due.is("no such PLAN: act", x.act(0, 0, 7), 0);
        due.is("no such PLAN: as", x.as(0, 0), GateWatch.NONE);
        due.is("no THINGS: bound", x.bound(1), 0);
        due.is("no THINGS: all", x.all(1, 0), GateWatch.NO);
        due.is("no THINGS: round", x.round(1, 0), GateWatch.NO);
    }

    private static void newerImage() {
        due.sentence("promise 29", "All is as THE IMAGE: NOW");
        GateWatch x = Due.with("well 1", 1);
        x.image();
        x.days(4);
        due.is("a newer one", x.image(), 4);
        x.days(4);
        due.is("undo()", x.undo(), 4);
        x.thing(0, 9);
        x.image();
        x.undo();
        due.is("the newest", x.count(1), 2);
        // What comes behind an undo has nothing of what was there ahead of it.
        x.plan(6, 1);
        x.image();
        x.row(0, 2);
        x.plan(6, 2);
        x.row(1, 3);
        x.thing(0, 50);
        x.seen(2, false);
        x.run(0, 3, 0);
        x.undo();
        due.is("the first ROW", x.judged(0, 1), GateWatch.STATE);
        due.is("a PLAN is new", x.plan(6, 3), 1);
        due.is("it has no ROW", x.judged(1, 1), GateWatch.STATE);
        due.is("its v", x.as(1, 6), 3);
        due.is("a THING is new", x.thing(0, 60), 2);
        int[] of = {0, 60, 1000000, 0, 0, 0};
        for (int what = 0; what <= 5; what++) {
            due.is("of(2, " + what + ")", x.of(2, what), of[what]);
        }
        due.is("and WELL", x.run(1, 1, 0), 3000);
    }

    // ---- count, and refusals

    private static void count() {
        due.sentence("promise 30", "0 SORTS, 1 THINGS, 2 PLANS, 3 NOW, 4 LOOKS, 5 bytes of THE TAPE, 6 bodies .. NONE");
        GateWatch x = Refused.rich();
        int[] counts = {2, 3, 8, 6, 1, 12, 6};
        for (int what = 0; what <= 6; what++) {
            due.is("count(" + what + ")", x.count(what), counts[what]);
        }
        GateWatch y = full();
        int[] most = {6, 8, 12, 999, 3, 120, 0};
        for (int what = 0; what <= 6; what++) {
            due.is("of all there can be, count(" + what + ")", y.count(what), most[what]);
        }
        for (int what : new int[] {7, -1, MIN, MAX}) {
            refused.is("count(" + what + ")", z -> z.count(what), GateWatch.NONE);
        }
    }

    public static void main(String[] args) {
        constants();
        calls512();
        allFull();
        wraps();
        mostBodies();
        nextAbove();
        fromTheLeft();
        noSuchAct();
        traceEnds();
        as();
        noImage();
        imageOfNothing();
        imageStays();
        imageOfUnseen();
        laterIsGone();
        newerImage();
        count();
        due.end();
    }
}
