import java.util.function.Supplier;

/** The boundary cases of THE TAPE and of SORTS (term 1, promises 1 to 4), a test for each sentence that names one. */
public final class TapeBoundaryTest {
    private static final Due due = new Due();
    private static final Refused refused = new Refused(due);
    private static final int MIN = Integer.MIN_VALUE, MAX = Integer.MAX_VALUE;

    private static void good(String text) {
        GateWatch x = new GateWatch();
        due.is("'" + text + "'", Due.sort(x, text), 0);
        due.is("'" + text + "' is taken off THE TAPE", x.count(5), 0);
    }

    private static void fault(String text, int place) {
        GateWatch x = new GateWatch();
        due.is("'" + text + "'", Due.sort(x, text), -10 - place);
        due.is("'" + text + "' is no SORT", x.count(0), 0);
    }

    /** An object with as many bytes on THE TAPE. */
    private static GateWatch taped(int bytes) {
        GateWatch x = Refused.rich();
        x.sort();
        for (int i = 0; i < bytes; i++) {
            x.feed(i == 0 ? 'w' : i, 1);
        }
        return x;
    }

    private static GateWatch sixSorts() {
        GateWatch x = new GateWatch();
        for (int s = 0; s < 6; s++) {
            Due.sort(x, "well " + s);
        }
        return x;
    }

    // ---- term 1

    private static void tapeAtMost() {
        due.sentence("term 1", "THE TAPE (bytes, 120 at most)");
        GateWatch x = new GateWatch();
        for (int i = 1; i <= 15; i++) {
            due.is("feed of 8", x.feed(0, 8), 8 * i);
        }
        due.is("the 121st", x.feed(0, 1), GateWatch.FULL);
        due.is("119 and 1", taped(119).feed(0, 1), 120);
        due.is("112 and 8", taped(112).feed(0, 8), 120);
    }

    /** Its last byte counts: without it the last test would ask for another d. */
    private static void tapeOfAll() {
        due.sentence("term 1", "A SORT is read from THE TAPE (bytes, 120 at most)");
        GateWatch x = new GateWatch();
        Due.feed(x, "ill 1 " + "d=1|".repeat(27) + "!d=111");
        due.is("count(5)", x.count(5), 120);
        due.is("a SORT of 120 bytes", x.sort(), 0);
        due.is("its last test, d 111", x.told(0, 111, 0, 0), 0);
        due.is("its last test, d 11", x.told(0, 11, 0, 0), 1);
    }

    private static void clausesAtMost() {
        due.sentence("term 1", "CLAUSES, 10 at most, with ; between");
        good("well 1");
        good("ill 1 d=0;ill 1 d=0;ill 1 d=0;ill 1 d=0;ill 1 d=0;ill 1 d=0;ill 1 d=0;ill 1 d=0;heal 1 d=0;heal 1 d=0");
        good("bad 1;bad 2;bad 3;bad 4;bad 5;bad 6;bad 7;bad 8;bad 9;bad 0");
        fault("bad 1;bad 2;bad 3;bad 4;bad 5;bad 6;bad 7;bad 8;bad 9;bad 0;", 59);
        fault("bad 1;bad 2;bad 3;bad 4;bad 5;bad 6;bad 7;bad 8;bad 9;bad 0;bad 1", 59);
        fault(";well 1", 0);
        fault("well 1;", 7);
        fault("well 1;;bad 1", 7);
        fault("well 1bad 1", 6);
        fault("well 1,bad 1", 6);
        fault("ill 5 d=1;", 10);
    }

    private static void clausesCountAll() {
        due.sentence("term 1", "CLAUSES, 10 at most");
        GateWatch x = new GateWatch();
        Due.sort(x, "ill 1 d=0;ill 2 d=0;ill 4 d=0;ill 8 d=0;ill 16 d=0;ill 32 d=0;ill 64 d=0;ill 128 d=0;heal 5 d=0;mend 6");
        due.is("all ill", x.told(0, 0, 0, 0), 255);
        due.is("the ninth", x.told(0, 0, 0, 1), 5);
        due.is("the tenth", x.told(0, 0, 0, 5), 6);
    }

    private static void oneBlank() {
        due.sentence("term 1", "one blank ahead of each part behind the word");
        good("ill 5 d=1");
        fault("ill5 d=1", 3);
        fault("ill  5 d=1", 4);
        fault("ill 5d=1", 5);
        fault("ill 5  d=1", 6);
        fault("heal 5k=1", 6);
        fault("heal 5  k=1", 7);
        fault("well7", 4);
        fault("well  7", 5);
        fault("bad\t7", 3);
        fault(" well 7", 0);
        fault("well 7 ", 6);
        fault("well 7; bad 7", 7);
        fault("well 7 ;bad 7", 6);
        fault("ill 5 d =1", 7);
        fault("ill 5 d= 1", 8);
        fault("ill 5 d=1 |k=1", 9);
        fault("ill 5 ( d=1)", 7);
    }

    private static void digits() {
        due.sentence("term 1", "n: 1 to 3 digits");
        good("well 7");
        good("well 77");
        good("well 777");
        good("well 999");
        fault("well ", 5);
        fault("well x", 5);
        fault("well 7777", 8);
        fault("well 1000", 8);
        fault("ill 1000 d=1", 7);
        fault("ill  d=1", 4);
        fault("well -1", 5);
        fault("well +1", 5);
        fault("well 1.5", 6);
        // The bytes next to the digits.
        fault("well /", 5);
        fault("well :", 5);
        fault("well 1/", 6);
        fault("well 1:", 6);
    }

    private static void zeroAhead() {
        due.sentence("term 1", "no 0 ahead of another");
        good("well 0");
        good("well 10");
        good("well 100");
        good("well 909");
        fault("well 00", 6);
        fault("well 01", 6);
        fault("well 007", 6);
        fault("ill 00 d=1", 5);
        good("ill 0 d=0");
        GateWatch x = new GateWatch();
        Due.sort(x, "well 100;bad 0;look 909;mend 10");
        int[] told = {0, 0, 100, 0, 909, 10};
        for (int what = 0; what <= 5; what++) {
            due.is("told(0, 0, 0, " + what + ")", x.told(0, 0, 0, what), told[what]);
        }
    }

    private static void testNumbers() {
        due.sentence("term 1", "a number likewise");
        good("ill 1 d<0");
        good("ill 1 d=10");
        good("ill 1 k>999");
        fault("ill 1 d<", 8);
        fault("ill 1 d<x", 8);
        fault("ill 1 d<00", 9);
        fault("ill 1 d<01", 9);
        fault("ill 1 d=1000", 11);
        fault("ill 1 d=-1", 8);
    }

    private static void testSigns() {
        due.sentence("term 1", "a TEST: d or k, one of < = >");
        fault("ill 1 x=1", 6);
        fault("ill 1 D=1", 6);
        fault("ill 1 =1", 6);
        fault("ill 1 d", 7);
        fault("ill 1 d1", 7);
        fault("ill 1 d!1", 7);
        fault("ill 1 d<=1", 8);
        fault("ill 1 d<>1", 8);
        fault("ill 1 dk=1", 7);
        // The bytes next to < = >.
        fault("ill 1 d;1", 7);
        fault("ill 1 d?1", 7);
    }

    /** 1, 2 and 4 as far as d is below, alike, above 5; 10, 20 and 40 likewise by k; then what no d and k pass. */
    private static void testEdges() {
        due.sentence("term 1", "a TEST: d or k, one of < = >, a number likewise: d DAYS since it was looked at last .. k its PLACE");
        GateWatch x = new GateWatch();
        Due.sort(x, "ill 1 d<5;ill 2 d=5;ill 4 d>5;ill 10 k<50;ill 20 k=50;ill 40 k>50");
        int[][] asked = {{4, 49, 11}, {5, 49, 12}, {6, 49, 14}, {4, 50, 21}, {5, 51, 42}, {6, 51, 44}, {0, 0, 11},
            {999, 99, 44}};
        for (int[] a : asked) {
            due.is("told(0, " + a[0] + ", " + a[1] + ", 0)", x.told(0, a[0], a[1], 0), a[2]);
        }
        Due.sort(x, "heal 1 d<0;heal 2 d>999;heal 4 k>99;heal 8 k<0;heal 16 k=100;heal 32 k=99;heal 64 d=999;heal 128 d=0");
        due.is("d 0, k 0", x.told(1, 0, 0, 1), 128);
        due.is("d 999, k 99", x.told(1, 999, 99, 1), 96);
        due.is("d 998, k 98", x.told(1, 998, 98, 1), 0);
    }

    private static void either() {
        due.sentence("term 1", "E: T, or T|E. T: F, or F&T. F: !F, (E), or a TEST");
        GateWatch x = new GateWatch();
        Due.sort(x, "ill 1 d=1|d=2&k=1;ill 10 d=1&k=1|d=2;ill 100 (d=1|d=2)&k=1;heal 1 !d=1&k=1;heal 10 !(d=1&k=1);"
            + "heal 100 !!d=1");
        int[][] asked = {{0, 0, 0, 10}, {0, 1, 0, 11}, {1, 0, 1, 110}, {1, 1, 111, 100}, {2, 0, 10, 10}, {2, 1, 111, 11}};
        for (int[] a : asked) {
            due.is("told(0, " + a[0] + ", " + a[1] + ", 0)", x.told(0, a[0], a[1], 0), a[2]);
            due.is("told(0, " + a[0] + ", " + a[1] + ", 1)", x.told(0, a[0], a[1], 1), a[3]);
        }
        fault("ill 1 ", 6);
        fault("ill 1 |d=1", 6);
        fault("ill 1 d=1|", 10);
        fault("ill 1 d=1||d=2", 10);
        fault("ill 1 d=1&", 10);
        fault("ill 1 d=1&|d=2", 10);
        fault("ill 1 !", 7);
        fault("ill 1 !&", 7);
        fault("ill 1 ()", 7);
        fault("ill 1 d=1)", 9);
        fault("ill 1 (d=1", 10);
        fault("ill 1 (d=1;well 1", 10);
        fault("ill 1 d=1!", 9);
        fault("ill 1 (d=1)(d=2)", 11);
    }

    private static void openAtMost() {
        due.sentence("term 1", "At most 5 of ! and ( are open");
        good("ill 1 !!!!!d=1");
        good("ill 1 (((((d=1)))))");
        good("ill 1 !(!(!d=1))");
        good("ill 1 (!(!(d=1)))");
        fault("ill 1 !!!!!!d=1", 11);
        fault("ill 1 ((((((d=1))))))", 11);
        fault("ill 1 !(!(!(d=1)))", 11);
        fault("ill 1 (!(!(!d=1)))", 11);
        fault("ill 1 !!!!!(d=1)", 11);
        fault("ill 1 (((((!d=1)))))", 11);
        GateWatch x = new GateWatch();
        Due.sort(x, "ill 1 !!!!!d=1;ill 10 !!!!d=1;ill 100 (((((d=1)))))");
        due.is("all five ! count", x.told(0, 1, 0, 0), 110);
        due.is("all five ! count", x.told(0, 2, 0, 0), 1);
    }

    private static void openTillItsEnd() {
        due.sentence("term 1", "a ( till its ) , a ! till its F ends");
        good("ill 1 !!!!!d=1&!!!!!d=2|!!!!!d=3");
        good("ill 1 (((((d=1)))))&(((((d=2)))))");
        good("ill 1 ((((!d=1&!d=2|!d=3))))");
        good("ill 1 ((((!d=1)&(d=2))))");
        good("ill 1 ((((d=1)&((d=2)))))");
        good("ill 1 !((((d=1))))&!((((d=2))))");
        good("ill 1 !!!!!d=1;heal 1 !!!!!d=1");
        // A ( is open to its ), through all that stands in it.
        fault("ill 1 ((((!d=1&!!d=2))))", 16);
        fault("ill 1 ((((d=1&((d=2))))))", 15);
        fault("ill 1 (((((d=1)&((d=2)))))", 17);
        // A ! is open as long as the (E) that it is for.
        fault("ill 1 !((((d=1&(d=2)))))", 15);
        fault("ill 1 !((((d=1))&((((d=2)))))", 19);
    }

    private static void faults() {
        due.sentence("term 1", "FAULT: the place of the first byte with which no SORT can go on");
        fault("x", 0);
        fault("xwell 1", 0);
        fault("W", 0);
        fault("\0", 0);
        fault("\u00ffwell 1", 0);
        fault("\u00f7ell 1", 0);
        fault("wall 1", 1);
        fault("wel 1", 3);
        fault("welll 1", 4);
        fault("iill 1 d=1", 1);
        fault("illl", 3);
        fault("hell 1", 2);
        fault("bed 1", 1);
        fault("lock 1", 2);
        fault("meld 1", 2);
        fault("well 1\0", 6);
        fault("well 1x;?", 6);
        fault("well 1;x?", 7);
        fault("ill 1 d=1\u00bd", 9);
        fault("well 1;bad 2;look 3;mend 4 ", 26);
        fault("well 1 d=1", 6);
        GateWatch x = new GateWatch();
        Due.feed(x, "well 1;".repeat(9) + "ill 1 " + "d=1|".repeat(12) + "d=");
        due.is("a TAPE of 119", x.count(5), 119);
        x.feed('?', 1);
        due.is("the last of 120 bytes", x.sort(), -10 - 119);
    }

    private static void tooEarly() {
        due.sentence("term 1", "the size, if it ends too early");
        String text = "heal 12 !(d<3|k>4);mend 5";
        int good = 0;
        for (int size = 1; size <= text.length(); size++) {
            // "mend 5" alone ends at its number, the heal ahead of it at its ).
            boolean whole = size == 18 || size == 25;
            int answer = Due.sort(new GateWatch(), text.substring(0, size));
            due.is("'" + text.substring(0, size) + "'", answer, whole ? 0 : -10 - size);
            good += answer == 0 ? 1 : 0;
        }
        due.is("as many are SORTS", good, 2);
        for (String word : new String[] {"", "i", "il", "ill", "ill ", "ill 1", "h", "hea", "w", "well", "well ", "b", "ba",
            "bad", "l", "loo", "look ", "m", "men", "mend", "ill 1 d=1&", "ill 1 d=1|!", "ill 1 d=1|!("}) {
            fault(word, word.length());
        }
        GateWatch x = new GateWatch();
        Due.feed(x, "ill 1 " + "d=1|".repeat(28) + "!(");
        due.is("a full TAPE", x.count(5), 120);
        due.is("a full TAPE that ends too early", x.sort(), -130);
    }

    private static void sortsAtMost() {
        due.sentence("term 1", "SORTS are numbered from 0 on, 6 at most");
        GateWatch x = new GateWatch();
        for (int s = 0; s < 6; s++) {
            due.is("a wrong one takes no number", Due.sort(x, "well"), -14);
            due.is("sort()", Due.sort(x, "well 1" + s), s);
        }
        for (int s = 0; s < 6; s++) {
            due.is("told(" + s + ", 0, 0, 2)", x.told(s, 0, 0, 2), 10 + s);
        }
        due.is("a seventh", Due.sort(x, "well 1"), GateWatch.FULL);
        due.is("count(0)", x.count(0), 6);
    }

    private static void thousandAtMost() {
        due.sentence("term 1", "the n of all ill whose E holds, together, 1000 at most; HEAL likewise");
        GateWatch x = new GateWatch();
        Due.sort(x, "ill 600 d<9;ill 399 d<9;ill 1 d<4;ill 1 d<3;heal 600 k<9;heal 399 k<9;heal 1 k<4;heal 1 k<3");
        int[][] asked = {{9, 0}, {8, 999}, {3, 1000}, {2, 1000}};
        for (int[] a : asked) {
            due.is("told(0, " + a[0] + ", 99, 0)", x.told(0, a[0], 99, 0), a[1]);
            due.is("told(0, 0, " + a[0] + ", 1)", x.told(0, 0, a[0], 1), a[1]);
        }
        Due.sort(x, "ill 999 d<9;ill 999 d<9;heal 999 d=0;heal 999 d=0");
        due.is("told(1, 0, 0, 0)", x.told(1, 0, 0, 0), 1000);
        due.is("told(1, 0, 0, 1)", x.told(1, 0, 0, 1), 1000);
        // 1000 and no more: KNOWN is 0, then all of it comes back, and is never below 0.
        x.thing(1, 0);
        x.days(1);
        due.is("KNOWN by ILL 1000", x.of(0, 2), 0);
        x.seen(0, false);
        x.days(1);
        due.is("KNOWN by HEAL 1000", x.of(0, 2), 1000000);
    }

    private static void theLast() {
        due.sentence("term 1", "of well, bad, look, mend the last n (0 without)");
        GateWatch x = new GateWatch();
        Due.sort(x, "well 9;well 3;bad 8;bad 0;look 7;look 999;mend 0;mend 6;ill 2 d=0;ill 1 d=0");
        int[] told = {3, 0, 3, 0, 999, 6};
        for (int what = 0; what <= 5; what++) {
            due.is("told(0, 0, 0, " + what + ")", x.told(0, 0, 0, what), told[what]);
        }
        Due.sort(x, "ill 5 d=9");
        Due.sort(x, "look 5");
        for (int what = 0; what <= 5; what++) {
            due.is("without: told(1, 0, 0, " + what + ")", x.told(1, 0, 0, what), 0);
            due.is("without: told(2, 0, 0, " + what + ")", x.told(2, 0, 0, what), what == 4 ? 5 : 0);
        }
    }

    // ---- promises 1 to 4

    private static void nothingIsThere() {
        due.sentence("promise 1", "Nothing is there");
        GateWatch other = Refused.rich();
        GateWatch x = new GateWatch();
        int[] counts = {0, 0, 0, 0, 1, 0, 0};
        for (int what = 0; what <= 6; what++) {
            due.is("count(" + what + ")", x.count(what), counts[what]);
        }
        due.is("trace(0)", x.trace(0), GateWatch.NONE);
        due.is("undo()", x.undo(), GateWatch.STATE);
        due.is("told(0, 0, 0, 0)", x.told(0, 0, 0, 0), GateWatch.NONE);
        due.is("thing(0, 0)", x.thing(0, 0), GateWatch.NONE);
        due.is("of(0, 0)", x.of(0, 0), GateWatch.NONE);
        due.is("seen(0, true)", x.seen(0, true), GateWatch.NONE);
        due.is("best(0, 0, 1, 0)", x.best(0, 0, 1, 0), GateWatch.NO);
        due.is("number(0, 1)", x.number(0, 1), GateWatch.NONE);
        due.is("such(0, 1)", x.such(0, 1), GateWatch.NONE);
        due.is("row(0, 0)", x.row(0, 0), GateWatch.NONE);
        due.is("whom(0)", x.whom(0), GateWatch.NONE);
        due.is("mean(0, 1)", x.mean(0, 1), GateWatch.NO);
        due.is("all(1, 0)", x.all(1, 0), GateWatch.NO);
        due.is("loses(0, 1)", x.loses(0, 1), GateWatch.NO);
        due.is("bound(1)", x.bound(1), 0);
        due.is("judged(0, 1)", x.judged(0, 1), GateWatch.NONE);
        due.is("run(0, 1, 0)", x.run(0, 1, 0), GateWatch.NO);
        due.is("round(1, -1)", x.round(1, -1), GateWatch.NO);
        due.is("tour(200, 8)", x.tour(200, 8), 0);
        due.is("edge(0, 1)", x.edge(0, 1), GateWatch.NONE);
        due.is("act(0, 0, 5)", x.act(0, 0, 5), 0);
        due.is("as(0, 0)", x.as(0, 0), GateWatch.NONE);
        due.is("image()", x.image(), 0);
        due.is("days(20)", x.days(20), 20);
        due.is("the other's SORTS", other.count(0), 2);
    }

    private static void fedHighestFirst() {
        due.sentence("promise 2", "The n lowest bytes of w, the highest first, come behind THE TAPE's");
        String text = "well 10;bad 2";
        for (int n = 1; n <= 8; n++) {
            GateWatch x = new GateWatch();
            for (int i = 0; i < text.length(); i += n) {
                String part = text.substring(i, Math.min(text.length(), i + n));
                // What stands above the n lowest bytes is left out.
                long above = part.length() < 8 ? -1L << 8 * part.length() : 0;
                due.is("feed by " + n, x.feed(above | Due.packed(part), part.length()), i + part.length());
            }
            due.is("fed by " + n, x.sort(), 0);
            due.is("fed by " + n, x.told(0, 0, 0, 2) * 10 + x.told(0, 0, 0, 3), 102);
        }
        GateWatch y = new GateWatch();
        due.is("all 8 bytes, the sign's, too", y.feed(Due.packed("well 1;\u00ff") , 8), 8);
        due.is("its FAULT", y.sort(), -17);
        due.is("feed(-1, 8)", y.feed(-1, 8), 8);
        due.is("its FAULT", y.sort(), -10);
    }

    private static void feedBad() {
        due.sentence("promise 2", "BAD: n not 1 .. 8");
        for (int n : new int[] {0, 9, -1, 10, 16, 64, MIN, MAX, MIN + 1, MAX - 8}) {
            refused.is("feed(w, " + n + ")", x -> x.feed(Due.packed(";mend 10"), n), GateWatch.BAD);
        }
        due.is("feed(w, 1)", new GateWatch().feed(0, 1), 1);
        due.is("feed(w, 8)", new GateWatch().feed(0, 8), 8);
    }

    private static void feedFull() {
        due.sentence("promise 2", "FULL");
        for (int n = 1; n <= 8; n++) {
            int size = 121 - n;
            int bytes = n;
            refused.is("feed of " + n + " to " + size, () -> taped(size), x -> x.feed(0, bytes), GateWatch.FULL);
            due.is("one less", taped(size).feed(0, n - 1), n == 1 ? GateWatch.BAD : 120);
        }
        refused.is("feed of 8 to 120", () -> taped(120), x -> x.feed(0, 8), GateWatch.FULL);
        due.sentence("term 5", "REFUSALS, of several the first one told");
        refused.is("feed of 9 to 120", () -> taped(120), x -> x.feed(0, 9), GateWatch.BAD);
        refused.is("feed of 0 to 120", () -> taped(120), x -> x.feed(0, 0), GateWatch.BAD);
        due.sentence("promise 2", "FULL");
        GateWatch x = new GateWatch();
        Due.feed(x, "well 1;".repeat(9) + "ill 7 " + "d=1|".repeat(12));
        due.is("count(5)", x.count(5), 117);
        due.is("4 more", x.feed(Due.packed("d=10"), 4), GateWatch.FULL);
        due.is("3 more", x.feed(Due.packed("k=5"), 3), 120);
        due.is("nothing of the 4 was taken", x.sort(), 0);
        due.is("nothing of the 4 was taken", x.told(0, 10, 5, 0), 7);
    }

    private static void emptyThen() {
        due.sentence("promise 3", "THE TAPE, which is empty then (by a FAULT, too)");
        GateWatch x = new GateWatch();
        due.is("a SORT", Due.sort(x, "well 1"), 0);
        due.is("count(5)", x.count(5), 0);
        due.is("a FAULT", Due.sort(x, "well 1;oops"), -17);
        due.is("count(5)", x.count(5), 0);
        due.is("nothing is left of either", Due.sort(x, "bad 2"), 1);
        due.is("told(1, 0, 0, 2)", x.told(1, 0, 0, 2), 0);
        due.is("told(1, 0, 0, 3)", x.told(1, 0, 0, 3), 2);
        for (int i = 1; i <= 15; i++) {
            x.feed(0, 8);
        }
        due.is("a full TAPE's FAULT", x.sort(), -10);
        due.is("there is room again", x.feed(0, 8), 8);
    }

    private static void sortFault() {
        due.sentence("promise 3", "-10 less the FAULT");
        due.is("at 0", Due.sort(new GateWatch(), "?"), -10);
        due.is("at 1", Due.sort(new GateWatch(), "w?"), -11);
        due.is("at 6", Due.sort(new GateWatch(), "well 1?"), -16);
        GateWatch x = Refused.rich();
        x.sort();
        String state = Due.state(x);
        due.is("a FAULT", Due.sort(x, "mend"), -14);
        due.is("it changes nothing else", Due.state(x).equals(state) ? 1 : 0, 1);
    }

    private static void sortFull() {
        due.sentence("promise 3", "FULL (ahead of all; THE TAPE stays)");
        String[] texts = {"well 7", "w", "oops", ""};
        for (String text : texts) {
            Supplier<GateWatch> made = () -> {
                GateWatch x = sixSorts();
                Due.feed(x, text);
                return x;
            };
            refused.is("'" + text + "' as a seventh", made, GateWatch::sort, GateWatch.FULL);
            GateWatch x = made.get();
            x.sort();
            due.is("THE TAPE stays", x.count(5), text.length());
            due.is("and again", x.sort(), GateWatch.FULL);
            due.is("more comes behind it", x.feed(0, 1), text.length() + 1);
        }
    }

    private static void toldBounds() {
        due.sentence("promise 4", "Of a SORT with d (0 .. 999) and k (0 .. 99): what 0 ILL .. 5 mend");
        due.is("d 0, k 0", Refused.rich().told(0, 0, 0, 1), 45);
        due.is("d 999, k 99", Refused.rich().told(0, 999, 99, 0), 30);
        due.is("the last SORT", Refused.rich().told(1, 999, 99, 4), 2);
        for (int sort : new int[] {2, -1, 6, MIN, MAX}) {
            refused.is("told(" + sort + ", 0, 0, 0)", x -> x.told(sort, 0, 0, 0), GateWatch.NONE);
        }
        for (int what : new int[] {6, -1, MIN, MAX}) {
            refused.is("told(0, 0, 0, " + what + ")", x -> x.told(0, 0, 0, what), GateWatch.NONE);
        }
        for (int d : new int[] {1000, -1, MIN, MAX}) {
            refused.is("told(0, " + d + ", 0, 0)", x -> x.told(0, d, 0, 0), GateWatch.BAD);
            refused.is("told(0, " + d + ", 0, 5)", x -> x.told(0, d, 0, 5), GateWatch.BAD);
        }
        for (int k : new int[] {100, -1, MIN, MAX}) {
            refused.is("told(0, 0, " + k + ", 1)", x -> x.told(0, 0, k, 1), GateWatch.BAD);
            refused.is("told(0, 0, " + k + ", 2)", x -> x.told(0, 0, k, 2), GateWatch.BAD);
        }
        due.sentence("term 5", "REFUSALS, of several the first one told");
        refused.is("no such SORT, d", x -> x.told(2, 1000, 0, 0), GateWatch.NONE);
        refused.is("no such what, k", x -> x.told(0, 0, 100, 6), GateWatch.NONE);
    }

    public static void main(String[] args) {
        tapeAtMost();
        tapeOfAll();
        clausesAtMost();
        clausesCountAll();
        oneBlank();
        digits();
        zeroAhead();
        testNumbers();
        testSigns();
        testEdges();
        either();
        openAtMost();
        openTillItsEnd();
        faults();
        tooEarly();
        sortsAtMost();
        thousandAtMost();
        theLast();
        nothingIsThere();
        fedHighestFirst();
        feedBad();
        feedFull();
        emptyThen();
        sortFault();
        sortFull();
        toldBounds();
        due.end();
    }
}
