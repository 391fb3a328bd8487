/** Promises 25 to 30: acts, THE TRACE, kinds, THE IMAGE. The numbers were worked out by hand. */
public final class ActsTest {
    private static final Due due = new Due();

    /** A plan of each KIND; i is 1 more than the KIND, v 10 more. */
    private static GateWatch ofAllKinds() {
        GateWatch x = new GateWatch();
        x.plan(0, 3);
        for (int kind = 0; kind <= 6; kind++) {
            x.plan(kind, 10 + kind);
        }
        return x;
    }

    private static void act(GateWatch x, int plan, int act, int n, int answer, int... bodies) {
        String call = "act(" + plan + ", " + act + ", " + n + ")";
        due.promise(25);
        due.is(call, x.act(plan, act, n), answer);
        due.promise(26);
        for (int i = 0; i < bodies.length; i++) {
            due.is(call + ", trace(" + i + ")", x.trace(i), bodies[i]);
        }
        due.is(call + ", trace behind the last", x.trace(bodies.length), GateWatch.NONE);
        due.is(call + ", trace(-1)", x.trace(-1), GateWatch.NONE);
        due.promise(30);
        due.is(call + ", count(6)", x.count(6), bodies.length);
    }

    private static void acts() {
        GateWatch x = ofAllKinds();
        act(x, 1, 0, 7, 8, 1);
        act(x, 1, 1, 7, 8 - 10, 2, 1);
        act(x, 1, 2, 7, -4, 3, 2, 1);
        act(x, 2, 0, 7, 21 + 2, 11, 1);
        act(x, 2, 1, 7, 23 - 11, 2, 11, 1);
        act(x, 2, 2, 7, 24, 3, 2, 11, 1);
        act(x, 3, 0, 7, 10, 1);
        act(x, 3, 1, 7, 10 - 12 ^ 5, 21, 2, 1);
        act(x, 3, 2, 7, (10 - 12 ^ 5) * 2, 3, 21, 2, 1);
        act(x, 4, 1, 7, 11 - 13, 2, 1);
        act(x, 4, 2, 7, 4, 31, 3, 2, 1);
        act(x, 5, 1, 7, 12 - 14 ^ 5, 21, 2, 1);
        act(x, 5, 2, 7, (13 - 14 ^ 5) * 2 + 7, 41, 3, 21, 2, 1, 1);
        act(x, 6, 0, 7, 13, 1);
        act(x, 6, 1, 7, 13 - 15 ^ 6, 51, 2, 1);
        act(x, 6, 2, 7, -((13 - 15 ^ 6) * 2), 31, 3, 51, 2, 1);
        act(x, 7, 0, 7, 14 + 16, 61, 1);
        act(x, 7, 1, 7, 14, 2, 61, 1);
        act(x, 7, 2, 7, 28, 3, 2, 61, 1);
        act(x, 2, 0, Integer.MAX_VALUE, Integer.MAX_VALUE * 3 + 2, 11, 1);
        act(x, 1, 0, Integer.MAX_VALUE, Integer.MIN_VALUE, 1);
        act(x, 8, 0, 7, 0);
        act(x, 1, 0, 7, 8, 1);
        act(x, -1, 0, 7, 0);
        act(x, 1, 0, 7, 8, 1);
        act(x, 1, 3, 7, 0);
        act(x, 1, -1, 7, 0);
    }

    private static void as() {
        due.promise(27);
        GateWatch x = ofAllKinds();
        int[][] of = {{0}, {0, 1}, {0, 2}, {0, 3}, {0, 2, 4}, {0, 3, 5}, {0, 6}};
        for (int kind = 0; kind <= 6; kind++) {
            for (int k = 0; k <= 6; k++) {
                int want = -6;
                for (int above : of[kind]) {
                    want = above == k ? 10 + kind : want;
                }
                due.is("as(" + (kind + 1) + ", " + k + ")", x.as(kind + 1, k), want);
            }
        }
        due.is("as(1, 7)", x.as(1, 7), GateWatch.NONE);
        due.is("as(1, -1)", x.as(1, -1), GateWatch.NONE);
        due.is("as(8, 0)", x.as(8, 0), GateWatch.NONE);
        due.is("as(-1, 0)", x.as(-1, 0), GateWatch.NONE);
    }

    private static void image() {
        GateWatch x = new GateWatch();
        due.promise(29);
        due.is("undo()", x.undo(), GateWatch.STATE);
        due.promise(28);
        Due.sort(x, "ill 100 k<100;well 5;look 1;mend 1");
        x.thing(0, 4);
        x.thing(0, 5);
        x.plan(0, 1);
        x.plan(6, 2);
        x.row(1, 2);
        x.looks(2);
        x.run(0, 7, 3);
        Due.feed(x, "well 12");
        String state = Due.state(x);
        due.is("image()", x.image(), 7);
        due.is("it changes nothing", Due.state(x).equals(state) ? 1 : 0, 1);
        due.promise(29);
        for (int again = 0; again < 3; again++) {
            long brings = x.run(0, 20, 77);
            changeAll(x, again);
            due.is("changed", Due.state(x).equals(state) ? 1 : 0, 0);
            x.act(0, 2, 5);
            due.is("undo()", x.undo(), 7);
            due.is("as it was", Due.state(x).equals(state) ? 1 : 0, 1);
            due.is("THE TRACE stays", x.count(6) * 10 + x.trace(0), 33);
            due.is("unseen, too", x.run(0, 20, 77), brings);
            x.undo();
        }
        due.is("THE TAPE is as it was", x.sort(), 1);
        due.is("told(1, 0, 0, 2)", x.told(1, 0, 0, 2), 12);
        due.is("the ROW is as it was", x.row(1, 0), 2);
        newer(x);
    }

    private static void changeAll(GateWatch x, int again) {
        x.sort();
        Due.sort(x, "well 99");
        Due.feed(x, "mend 9" + again);
        x.thing(0, 50);
        x.seen(again % 2, false);
        x.plan(4, 50);
        x.row(1, 3);
        x.looks(1);
        x.days(5);
    }

    private static void newer(GateWatch x) {
        x.undo();
        x.days(3);
        due.promise(28);
        due.is("a newer one", x.image(), 10);
        x.days(1);
        x.thing(0, 1);
        due.is("undo()", x.undo(), 10);
        due.is("count(1)", x.count(1), 2);
        x.plan(6, 9);
        due.is("the place of a PLAN is taken anew", x.row(2, 1), 1);
        x.undo();
        x.plan(6, 8);
        due.is("with no ROW", x.judged(2, 1), GateWatch.STATE);
        due.is("a row is from its own beginning", x.row(2, 1), 1);
        x.undo();
        x.thing(0, 98);
        x.plan(0, 0);
        x.run(2, 3, 3);
        x.undo();
        x.thing(0, 97);
        due.is("a THING is as it comes", x.of(2, 2) + x.of(2, 3) + x.of(2, 4) + x.of(2, 5), 1000000);
    }

    private static void count() {
        due.promise(30);
        GateWatch x = new GateWatch();
        Due.sort(x, "well 1");
        Due.sort(x, "well 2");
        x.thing(0, 0);
        x.thing(0, 0);
        x.thing(0, 0);
        x.plan(0, 0);
        x.days(4);
        x.looks(3);
        Due.feed(x, "look");
        int[] counts = {2, 3, 1, 4, 3, 4, 0};
        for (int what = 0; what <= 6; what++) {
            due.is("count(" + what + ")", x.count(what), counts[what]);
        }
        due.is("count(-1)", x.count(-1), GateWatch.NONE);
        due.is("count(7)", x.count(7), GateWatch.NONE);
    }

    public static void main(String[] args) {
        acts();
        as();
        image();
        count();
        due.end();
    }
}
