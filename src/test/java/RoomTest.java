import java.lang.management.ManagementFactory;

/**
 * The room that the calls of a run take: the dear ones make nothing, so 360 of them take no more than one. Bytes
 * are counted, which no object or array goes without.
 */
public final class RoomTest {
    private static final Due due = new Due();
    private static final com.sun.management.ThreadMXBean BEAN =
        (com.sun.management.ThreadMXBean) ManagementFactory.getThreadMXBean();

    private static long bytes() {
        return BEAN.getThreadAllocatedBytes(Thread.currentThread().getId());
    }

    /** As much as there can be: 8 THINGS, 3 LOOKS, a PLAN of each KIND. */
    private static GateWatch full() {
        GateWatch x = new GateWatch();
        Due.sort(x, "ill 97 d<9|k>3&!d=2;ill 31 k>40;heal 11 d>3;well 91;bad 83;look 3;mend 9");
        Due.sort(x, "ill 61 d>0|k>3&!d=2;heal 23 d<3;well 72;bad 99;look 2");
        for (int t = 0; t < 8; t++) {
            x.thing(t % 2, 9 * t);
        }
        for (int kind = 0; kind <= 6; kind++) {
            x.plan(kind, 2);
        }
        for (int day = 0; day < 10; day++) {
            x.row(6, 7 << day % 6);
        }
        x.looks(3);
        x.days(3);
        return x;
    }

    private static long call(GateWatch x, int i) {
        switch (i % 12) {
            case 0: return x.mean(i % 7, 3);
            case 1: return x.all(2, i % 2);
            case 2: return x.loses(i % 7, 2);
            case 3: return x.bound(8);
            case 4: return x.round(3, -1);
            case 5: return x.tour(200, 8);
            case 6: return x.edge(i % 8, 4);
            case 7: return x.image() + x.undo();
            case 8: return x.judged(6, 10);
            case 9: return x.such(i % 8, 8);
            case 10: return x.act(i % 7, 2, i);
            default: return x.run(i % 7, 2, i);
        }
    }

    public static void main(String[] args) {
        GateWatch x = full();
        long sum = 0;
        for (int i = 0; i < 12; i++) {
            sum += call(x, i);
        }
        long before = bytes();
        for (int i = 0; i < 360; i++) {
            sum += call(x, i);
        }
        long calls = bytes() - before;
        due.is("360 dear calls (" + sum + ") took " + calls + " bytes: a few", calls < 20000 ? 1 : 0, 1);
        before = bytes();
        GateWatch y = new GateWatch();
        long made = bytes() - before;
        due.is("a new object (" + y.count(4) + ") took " + made + " bytes", made < 40000 ? 1 : 0, 1);
        before = bytes();
        for (int i = 0; i < 500; i++) {
            y.sort();
        }
        long sorts = bytes() - before;
        due.is("500 sort() took " + sorts + " bytes", sorts < 1000000 ? 1 : 0, 1);
        due.end();
    }
}
