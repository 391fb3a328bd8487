import java.util.ArrayList;
import java.util.List;
import java.util.function.Supplier;
import java.util.function.ToLongFunction;

/**
 * Shows of a refused call that it changed nothing: it is made on one of two objects that were made alike, and from
 * then on both must answer alike, whatever is asked of them.
 */
final class Refused {
    private final Due due;

    Refused(Due due) {
        this.due = due;
    }

    void is(String call, Supplier<GateWatch> made, ToLongFunction<GateWatch> asked, long want) {
        GateWatch x = made.get();
        due.is(call, asked.applyAsLong(x), want);
        due.is(call + " changed nothing", firstUnlike(answers(x), answers(made.get())), -1);
    }

    /** The same of an object that has some of everything. */
    void is(String call, ToLongFunction<GateWatch> asked, long want) {
        is(call, Refused::rich, asked, want);
    }

    /** Some of everything: 2 SORTS, 3 THINGS, 8 PLANS, two ROWS, a begun TAPE, COUNTS, THE TRACE, an older IMAGE. */
    static GateWatch rich() {
        GateWatch x = new GateWatch();
        Due.sort(x, "ill 120 d<4;ill 30 k>5;heal 45 d>2|k=0;well 20;bad 31;look 3;mend 7");
        Due.sort(x, "ill 200 !(d=0);well 9;bad 14;look 2");
        x.thing(0, 0);
        x.thing(1, 30);
        for (int kind = 0; kind <= 6; kind++) {
            x.plan(kind, 3 * kind + 1);
        }
        x.row(6, 3);
        x.row(6, 2);
        x.looks(2);
        Due.feed(x, "bad 4;");
        x.days(2);
        x.image();
        x.seen(1, false);
        x.run(3, 4, 17);
        x.thing(0, 12);
        x.plan(6, 8);
        x.row(7, 4);
        x.looks(1);
        Due.feed(x, "well 7");
        x.act(4, 2, 9);
        return x;
    }

    private static int firstUnlike(List<Long> a, List<Long> b) {
        for (int i = 0; i < Math.min(a.size(), b.size()); i++) {
            if (!a.get(i).equals(b.get(i))) {
                return i;
            }
        }
        return a.size() == b.size() ? -1 : Math.min(a.size(), b.size());
    }

    /** What an object answers from now on; THE IMAGE is asked, too, so all is asked twice. */
    private static List<Long> answers(GateWatch x) {
        List<Long> all = new ArrayList<>();
        look(x, all);
        use(x, all);
        all.add((long) x.undo());
        look(x, all);
        use(x, all);
        return all;
    }

    /** Calls that change nothing but THE TRACE, which is asked first. */
    private static void look(GateWatch x, List<Long> all) {
        int[] counts = new int[7];
        for (int what = 0; what <= 6; what++) {
            counts[what] = x.count(what);
            all.add((long) counts[what]);
        }
        for (int i = 0; i <= counts[6]; i++) {
            all.add((long) x.trace(i));
        }
        for (int i = 0; i < 6 * counts[0]; i++) {
            all.add((long) x.told(i / 6, 3, 12, i % 6));
        }
        for (int i = 0; i < 6 * counts[1]; i++) {
            all.add((long) x.of(i / 6, i % 6));
        }
        for (int p = 0; p < counts[2]; p++) {
            all.add((long) x.whom(p));
            all.add(x.mean(p, 2));
            all.add((long) x.act(p, 2, 5));
        }
        all.add(x.all(1, 0));
        all.add(x.bound(2));
    }

    /** Calls that show what can't be asked for: THE TAPE, the ROWS, and who is WELL. */
    private static void use(GateWatch x, List<Long> all) {
        all.add((long) x.feed(Due.packed(";look 3"), 7));
        int sort = x.sort();
        all.add((long) sort);
        all.add((long) x.told(sort, 0, 0, 2));
        int plans = x.count(2);
        for (int p = 0; p < plans; p++) {
            all.add((long) x.row(p, 0));
            all.add(x.run(p, 3, 31 * p));
        }
        int things = x.count(1);
        for (int t = 0; t < things; t++) {
            all.add((long) x.of(t, 4));
            all.add((long) x.of(t, 5));
        }
    }
}
