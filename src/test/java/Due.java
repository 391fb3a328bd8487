/** Counts answers that are not the ones that are due, and ends the test by them. */
final class Due {
    /** A sort that stays as it is till a LOOK mends it. */
    static final String STEADY = "well 20;bad 30;look 5;mend 7";

    private int checks = 0;
    private int wrong = 0;
    private String promise = "";

    void promise(int number) {
        promise = "promise " + number + ": ";
    }

    /** What follows is of this sentence of the document: a term or a promise, and its words. */
    void sentence(String where, String words) {
        promise = where + ", \"" + words + "\": ";
    }

    void is(String call, long got, long want) {
        checks++;
        if (got != want) {
            wrong++;
            System.out.println(promise + call + " answered " + got + ", due is " + want);
        }
    }

    void end() {
        System.out.println(checks + " checks, " + wrong + " wrong");
        if (wrong != 0 || checks == 0) {
            System.exit(1);
        }
    }

    /** Eight signs at the most, as feed() takes them. */
    static long packed(String part) {
        long w = 0;
        for (int i = 0; i < part.length(); i++) {
            w = w << 8 | part.charAt(i) & 255;
        }
        return w;
    }

    static void feed(GateWatch x, String text) {
        for (int i = 0; i < text.length(); i += 8) {
            String part = text.substring(i, Math.min(i + 8, text.length()));
            x.feed(packed(part), part.length());
        }
    }

    static int sort(GateWatch x, String text) {
        feed(x, text);
        return x.sort();
    }

    /** An object with one sort, and things of it at the places 0, 10, 20 and so on. */
    static GateWatch with(String sort, int things) {
        GateWatch x = new GateWatch();
        sort(x, sort);
        for (int t = 0; t < things; t++) {
            x.thing(0, 10 * t);
        }
        return x;
    }

    /** What can be asked of an object with no change but THE TRACE's: to show that a refusal changed nothing. */
    static String state(GateWatch x) {
        StringBuilder all = new StringBuilder();
        for (int what = 0; what <= 5; what++) {
            all.append(x.count(what)).append(' ');
        }
        for (int t = 0; t < x.count(1); t++) {
            for (int what = 0; what <= 5; what++) {
                all.append(x.of(t, what)).append(' ');
            }
        }
        for (int p = 0; p < x.count(2); p++) {
            all.append(x.whom(p)).append(' ').append(x.as(p, 0)).append(' ').append(x.mean(p, 2)).append(' ');
        }
        return all.toString();
    }
}
