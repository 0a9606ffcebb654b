/** Of each promise: ordinary inputs, the edges that the document names, wrong inputs; answers worked out by hand. */
public final class PromiseRuns {
    private static final int UNKNOWN = -1, OUTSIDE = -2, STATE = -3, FULL = -4, NONE = -9;
    private static final int NULL = -11, CAST = -12, INDEX = -13, SIZE = -14;
    private static final long LOST = Long.MIN_VALUE;
    private static final int MIN = Integer.MIN_VALUE, MAX = Integer.MAX_VALUE;

    private static int wrong;
    private static int promise;
    private static YawnTrain t;

    private static void due(String call, long got, long want) {
        if (got != want) {
            wrong++;
            System.out.println("promise " + promise + ": " + call + " answered " + got + ", due is " + want);
        }
    }

    private static void begin(int number) {
        promise = number;
        t = new YawnTrain();
    }

    /** Puts a text onto SHEET 3 (ints): how long it is. */
    private static int write(String text) {
        t.sheet(3, 2, text.length());
        for (int i = 0; i < text.length(); i++) {
            t.put(3, i, text.charAt(i));
        }
        return text.length();
    }

    private static int carriage(String text) {
        return t.carriage(3, 2, 0, write(text));
    }

    private static int law(String text) {
        return t.law(3, 2, 0, write(text));
    }

    private static int night(int l, int... draws) {
        t.sheet(2, 2, draws.length);
        for (int i = 0; i < draws.length; i++) {
            t.put(2, i, draws[i]);
        }
        return t.night(l, 2, 2, 0, draws.length);
    }

    private static void newObject() {
        begin(1);
        for (int what = 0; what <= 4; what++) {
            due("many(" + what + ")", t.many(what), 0);
        }
        due("ofSeat(0, 0)", t.ofSeat(0, 0), UNKNOWN);
        due("line(0, 0)", t.line(0, 0), UNKNOWN);
        due("one(0, 0, 0, 0)", t.one(0, 0, 0, 0), UNKNOWN);
        due("ofLaw(0, 0)", t.ofLaw(0, 0), UNKNOWN);
        due("fault()", t.fault(), 0);
        due("trace()", t.trace(), 0);
        for (int k = 0; k < 4; k++) {
            due("lose", t.lose(k), 0);
            due("cell", t.cell(k, 0, 0), LOST);
            due("fault()", t.fault(), 1);
        }
        YawnTrain other = new YawnTrain();
        carriage("c11;f");
        due("another object's SEATS", other.many(0), 0);
    }

    private static void carriages() {
        begin(2);
        String[] faulty = {"", "x", "c", "c0", "c9", "cc", "c1", "c10", "c15", "c11", "c11x", "c11;", "c11;x", "c11;ff",
            "c11m", "c11mm", "c11m;", "c11m;m", "c23;fblrf", "c23;fblrfbb", "c23;fblrf;", "C11;f"};
        int[] places = {0, 0, 1, 1, 1, 1, 2, 2, 2, 3, 3, 4, 4, 5, 4, 4, 5, 5, 9, 10, 9, 0};
        due("c21m;br", carriage("c21m;br"), 2);
        for (int k = 0; k < faulty.length; k++) {
            due("carriage " + faulty[k], carriage(faulty[k]), -100 - places[k]);
            due("fault()", t.fault(), 0);
        }
        due("many(0) behind refused TEXTS", t.many(0), 2);
        due("c11;f", carriage("c11;f"), 1);
        due("c84", carriage("c84;ffffbbbbllllrrrrffffbbbbllllrrrr"), 32);
        due("c84m", carriage("c84m;ffffbbbbllllrrrrffffbbbbllllrrrr"), 32);
        due("c84 too long", carriage("c84;ffffbbbbllllrrrrffffbbbbllllrrrrf"), -136);
        int n = write("  c12;rl;");
        due("from within", t.carriage(3, 2, 2, 6), 2);
        due("its end shut out", t.carriage(3, 2, 2, 5), -105);
        due("one code more", t.carriage(3, 2, 2, 7), -106);
        due("its end", t.carriage(3, 2, n, 0), -100);
        due("fault()", t.fault(), 0);
        due("behind its end", t.carriage(3, 2, n + 1, 0), INDEX);
        due("fault()", t.fault(), 3);
        due("ahead of it", t.carriage(3, 2, -1, 0), INDEX);
        due("too many", t.carriage(3, 2, 2, n - 1), INDEX);
        due("far too many", t.carriage(3, 2, 2, MAX), INDEX);
        due("far from", t.carriage(3, 2, MAX, MAX), INDEX);
        due("a length below 0", t.carriage(3, 2, -1, -1), SIZE);
        due("the least length", t.carriage(3, 2, 0, MIN), SIZE);
        due("another LANE, and below 0", t.carriage(3, 0, 0, -1), CAST);
        due("no LANE", t.carriage(3, 3, 0, -1), OUTSIDE);
        due("no LANE", t.carriage(3, -1, 0, -1), OUTSIDE);
        due("fault()", t.fault(), 0);
        due("no SHEET", t.carriage(4, 3, 0, 0), UNKNOWN);
        due("no SHEET", t.carriage(-1, 0, 0, 0), UNKNOWN);
        due("nothing", t.carriage(1, 1, -1, -1), NULL);
        due("fault()", t.fault(), 1);
        write("c11;f");
        t.put(3, 0, 'c' + 256);
        due("a code of an int that only ends as c does", t.carriage(3, 2, 0, 5), -100);
        t.sheet(0, 0, 5);
        for (int i = 0; i < 5; i++) {
            t.put(0, i, "c11;f".charAt(i) + 256);
        }
        due("codes cut to bytes", t.carriage(0, 0, 0, 5), 1);
        anew();
    }

    private static void anew() {
        carriage("c12;rl");
        law("o2");
        t.one(0, 0, 1, 1);
        t.one(2, 1, 1, 1);
        t.yawn(7, 1);
        t.blind(0, 1, true);
        carriage("c12;xl");
        due("ONES behind a TEXT not taken", t.many(1), 2);
        due("YAWNS behind a TEXT not taken", t.many(3), 1);
        due("BLINDS behind a TEXT not taken", t.many(4), 1);
        t.tell(1);
        int trace = t.trace();
        carriage("c12;rl");
        due("ONES anew", t.many(1), 0);
        due("LAWS stay", t.many(2), 1);
        due("YAWNS anew", t.many(3), 0);
        due("BLINDS anew", t.many(4), 0);
        due("TRACE stays", t.trace(), trace);
        due("who is there", t.ofSeat(0, 1), NONE);
        due("no BLIND", t.line(0, 1), 1);
        due("ofOne(0, 0)", t.ofOne(0, 0), UNKNOWN);
        due("numbers from 0 on again", t.one(1, 1, 0, 0), 0);
        due("its kind", t.ofOne(0, 0), 1);
        due("a minute of 0 again", t.yawn(0, 0), 0);
    }

    private static void seats() {
        begin(3);
        carriage("c23;fblrfb");
        int[] faces = {0, 1, 2, 3, 0, 1};
        for (int c = 0; c < 6; c++) {
            due("ofSeat(" + c + ", 0)", t.ofSeat(c, 0), faces[c]);
            due("ofSeat(" + c + ", 1)", t.ofSeat(c, 1), NONE);
        }
        t.one(0, 4, 0, 0);
        due("who is there", t.ofSeat(4, 1), 0);
        t.move(0, 1);
        due("who was there", t.ofSeat(4, 1), NONE);
        due("who is there now", t.ofSeat(1, 1), 0);
        // f in the first row sees nobody, b the SEAT behind, l all left, r all right.
        int[] lines = {0, 1 << 4, 1 | 2, 1 << 4 | 1 << 5, 1 << 1, 0};
        for (int c = 0; c < 6; c++) {
            due("ofSeat(" + c + ", 2)", t.ofSeat(c, 2), lines[c]);
        }
        due("ofSeat(6, 0)", t.ofSeat(6, 0), UNKNOWN);
        due("ofSeat(-1, 9)", t.ofSeat(-1, 9), UNKNOWN);
        due("ofSeat(0, 3)", t.ofSeat(0, 3), OUTSIDE);
        due("ofSeat(0, -1)", t.ofSeat(0, -1), OUTSIDE);
        carriage("c84;ffffbbbbllllrrrrffffbbbbllllrrrr");
        due("a LINE with SEAT 31", t.ofSeat(28, 2), 1 << 29 | 1 << 30);
        due("a LINE that has SEAT 31 alone", t.ofSeat(30, 2), 0);
        due("a LINE from SEAT 31", t.ofSeat(31, 2), 0);
        due("a column", t.ofSeat(16, 2), 1 | 1 << 4 | 1 << 8 | 1 << 12);
        due("a column back", t.ofSeat(4, 2), 1 << 8 | 1 << 12 | 1 << 16 | 1 << 20 | 1 << 24 | 1 << 28);
        carriage("c84m;ffffbbbbllllrrrrffffbbbbllllrrrr");
        due("a column by a MIRROR", t.ofSeat(19, 2), 0x08888888);
    }

    private static void lines() {
        begin(4);
        carriage("c41m;bfbf");
        int[][] all = {{1, 1, 1, 1}, {1, 1, 1, 1}, {1, 1, 1, 1}, {1, 1, 1, 1}};
        dueLines(all);
        t.blind(1, 2, true);
        // 0 b: 1, then the BLIND; 1 f: 0, back by the MIRROR to 1; 2 b: 3, back to 2; 3 f: 2, then the BLIND.
        dueLines(new int[][] {{0, 1, 0, 0}, {1, 1, 0, 0}, {0, 0, 1, 1}, {0, 0, 1, 0}});
        t.blind(1, 2, false);
        t.blind(2, 3, true);
        // 1 f: 0 and back to 1, 2; 2 b: the BLIND at once; 3 f: the BLIND at once.
        dueLines(new int[][] {{0, 1, 1, 0}, {1, 1, 1, 0}, {0, 0, 0, 0}, {0, 0, 0, 0}});
        carriage("c41;bfbf");
        dueLines(new int[][] {{0, 1, 1, 1}, {1, 0, 0, 0}, {0, 0, 0, 1}, {1, 1, 1, 0}});
        carriage("c14m;rrlf");
        // No MIRRORS at the sides; f of the only row stands at the end with a MIRROR.
        dueLines(new int[][] {{0, 1, 1, 1}, {0, 0, 1, 1}, {1, 1, 0, 0}, {0, 0, 0, 1}});
        carriage("c22;rlrl");
        // A row's end is no way to the next row.
        dueLines(new int[][] {{0, 1, 0, 0}, {1, 0, 0, 0}, {0, 0, 0, 1}, {0, 0, 1, 0}});
        due("line(0, 4)", t.line(0, 4), UNKNOWN);
        due("line(4, 0)", t.line(4, 0), UNKNOWN);
        due("line(-1, 0)", t.line(-1, 0), UNKNOWN);
        due("line(0, -1)", t.line(0, -1), UNKNOWN);
        due("line(MAX, MIN)", t.line(MAX, MIN), UNKNOWN);
        carriage("c84;rfffbbbbllllrrrrffffbbbbllllrrrr");
        due("line(28, 31)", t.line(28, 31), 1);
        due("line(29, 28)", t.line(29, 28), 0);
    }

    private static void dueLines(int[][] all) {
        for (int c = 0; c < all.length; c++) {
            for (int d = 0; d < all[c].length; d++) {
                due("line(" + c + ", " + d + ")", t.line(c, d), all[c][d]);
            }
        }
    }

    private static void blindsPut() {
        begin(5);
        carriage("c23;rrrlll");
        due("a GAP in a row", t.blind(0, 1, true), 1);
        due("it is so", t.blind(1, 0, true), 0);
        due("many(4)", t.many(4), 1);
        due("a GAP of rows", t.blind(4, 1, true), 1);
        due("many(4)", t.many(4), 2);
        due("line(0, 1)", t.line(0, 1), 0);
        due("line(5, 3)", t.line(5, 3), 1);
        due("a GAP loses it", t.blind(1, 0, false), 1);
        due("it is so", t.blind(0, 1, false), 0);
        due("many(4)", t.many(4), 1);
        due("line(0, 2)", t.line(0, 2), 1);
        due("a row's end and the next", t.blind(2, 3, true), OUTSIDE);
        due("across", t.blind(0, 4, true), OUTSIDE);
        due("two away", t.blind(0, 2, true), OUTSIDE);
        due("itself", t.blind(1, 1, true), OUTSIDE);
        due("no SEAT", t.blind(5, 6, true), UNKNOWN);
        due("no SEAT", t.blind(6, 5, true), UNKNOWN);
        due("no SEAT", t.blind(-1, 0, false), UNKNOWN);
        due("many(4)", t.many(4), 1);
        carriage("c31;fff");
        due("one column", t.blind(1, 2, true), 1);
        due("one column", t.blind(0, 2, true), OUTSIDE);
    }

    private static void ones() {
        begin(6);
        carriage("c44;ffffffffffffffff");
        due("no SEAT", t.one(5, 16, 0, 0), UNKNOWN);
        due("no SEAT", t.one(0, -1, 0, 0), UNKNOWN);
        due("no kind", t.one(3, 0, 0, 0), OUTSIDE);
        due("no kind", t.one(-1, 0, 0, 0), OUTSIDE);
        due("SLEPT", t.one(0, 0, 10, 0), OUTSIDE);
        due("SLEPT", t.one(0, 0, -1, 0), OUTSIDE);
        due("KIN", t.one(0, 0, 0, 10), OUTSIDE);
        due("KIN", t.one(0, 0, 0, -1), OUTSIDE);
        for (int x = 0; x < 12; x++) {
            due("one", t.one(x % 3, 15 - x, x % 10, 9 - x % 10), x);
            due("somebody is there", t.one(0, 15 - x, 0, 0), STATE);
            due("outside comes first", t.one(0, 15 - x, 10, 0), OUTSIDE);
        }
        due("full", t.one(0, 0, 0, 0), FULL);
        due("outside ahead of full", t.one(0, 0, 0, 11), OUTSIDE);
        due("somebody ahead of full", t.one(0, 15, 0, 0), STATE);
        due("many(1)", t.many(1), 12);
        due("nobody came there", t.ofSeat(0, 1), NONE);
    }

    private static void ofOnes() {
        begin(7);
        carriage("c32m;fbrlbf");
        t.one(0, 0, 3, 1);
        t.one(1, 2, 8, 4);
        t.one(2, 4, 0, 9);
        int[][] all = {{0, 0, 3, 1, 1 << 1 | 1 << 2, 1 << 1}, {1, 2, 8, 4, 0, 1 | 1 << 2}, {2, 4, 0, 9, 1 | 1 << 1, 1 << 1}};
        for (int x = 0; x < 3; x++) {
            for (int what = 0; what < 6; what++) {
                due("ofOne(" + x + ", " + what + ")", t.ofOne(x, what), all[x][what]);
            }
            due("ofOne(" + x + ", 6)", t.ofOne(x, 6), OUTSIDE);
            due("ofOne(" + x + ", -1)", t.ofOne(x, -1), OUTSIDE);
        }
        t.blind(2, 4, true);
        due("sees up to the BLIND", t.ofOne(2, 4), 0);
        due("sees back from the MIRROR up to it", t.ofOne(0, 4), 1 << 1);
        due("hears through a BLIND", t.ofOne(2, 5), 1 << 1);
        due("ofOne(3, 7)", t.ofOne(3, 7), UNKNOWN);
        due("ofOne(-1, 0)", t.ofOne(-1, 0), UNKNOWN);
    }

    private static void moves() {
        begin(8);
        carriage("c12;rl");
        due("nobody yet", t.move(0, 0), UNKNOWN);
        t.one(0, 0, 0, 0);
        due("where it is", t.move(0, 0), STATE);
        due("no SEAT", t.move(0, 2), UNKNOWN);
        due("no SEAT", t.move(0, -1), UNKNOWN);
        due("goes", t.move(0, 1), 0);
        due("its SEAT", t.ofOne(0, 1), 1);
        due("left", t.ofSeat(0, 1), NONE);
        due("taken", t.ofSeat(1, 1), 0);
        t.one(0, 0, 0, 0);
        due("somebody is there", t.move(0, 0), STATE);
        due("no one", t.move(2, 0), UNKNOWN);
        due("goes nowhere", t.ofOne(0, 1), 1);
    }

    private static void laws() {
        begin(9);
        String[] faulty = {"", "x", "o", "ox", "k0", "f0", "t0", "s:", "o1;", "o1;o", "o1s2", "o1;x", "o1;;", "o12",
            "o1;s1;e1;k1;y1;f1;t1;", "o1;s1;e1;k1;y1;f1;t1;o", "t1;t"};
        int[] places = {0, 0, 1, 1, 1, 1, 1, 1, 3, 3, 2, 3, 3, 2, 20, 20, 3};
        for (int k = 0; k < faulty.length; k++) {
            due("law " + faulty[k], law(faulty[k]), -100 - places[k]);
        }
        due("many(2)", t.many(2), 0);
        int n = write("xo0;y0x");
        due("from within", t.law(3, 2, 1, 5), 0);
        due("its end", t.law(3, 2, n, 0), -100);
        due("behind its end", t.law(3, 2, n + 1, 0), INDEX);
        due("fault()", t.fault(), 3);
        due("too many", t.law(3, 2, 3, 5), INDEX);
        due("below 0", t.law(3, 2, 8, -1), SIZE);
        due("another LANE", t.law(3, 1, 8, -1), CAST);
        due("no LANE", t.law(3, 3, 0, 0), OUTSIDE);
        due("no SHEET", t.law(4, 3, 0, 0), UNKNOWN);
        due("nothing", t.law(0, 1, 0, -1), NULL);
        due("all", law("t9;f1;y9;k9;e9;s9;o9"), 1);
        due("fault()", t.fault(), 0);
        for (int l = 2; l < 6; l++) {
            due("law", law("s" + l), l);
        }
        due("faulty ahead of full", law("s"), -101);
        due("full", law("s1"), FULL);
        due("many(2)", t.many(2), 6);
    }

    private static void ofLaws() {
        begin(10);
        law("o9");
        law("t2;f7");
        law("f6");
        law("f5");
        law("t1;y0;k1;e0;s0;o0;f1");
        int[][] all = {{9, 6, 2, 3, 3, 1, 5}, {1, 6, 2, 3, 3, 7, 7}, {1, 6, 2, 3, 3, 6, 6}, {1, 6, 2, 3, 3, 5, 5}, {0, 0, 0, 1, 0, 1, 1}};
        for (int l = 0; l < 5; l++) {
            for (int what = 0; what < 7; what++) {
                due("ofLaw(" + l + ", " + what + ")", t.ofLaw(l, what), all[l][what]);
            }
        }
        due("ofLaw(5, 0)", t.ofLaw(5, 0), UNKNOWN);
        due("ofLaw(-1, 0)", t.ofLaw(-1, 0), UNKNOWN);
        due("ofLaw(0, 7)", t.ofLaw(0, 7), UNKNOWN);
        due("ofLaw(0, -1)", t.ofLaw(0, -1), UNKNOWN);
    }

    /** A PERSON who sees both, a CHILD of its KIN who sees it, a DOG of another KIN who sees nobody. */
    private static void threeInARow() {
        carriage("c13;rlb");
        t.one(0, 0, 9, 1);
        t.one(1, 1, 0, 1);
        t.one(2, 2, 4, 2);
        law("o2;s5;e1;k3;y4");
    }

    private static void mights() {
        begin(11);
        threeInARow();
        due("sees its KIN", t.might(0, 0, 1), 15);
        due("sees another KIN", t.might(0, 0, 2), 5);
        due("a CHILD: 15 times 4 by 9", t.might(0, 1, 0), 6);
        due("a CHILD: 1 times 4 by 9", t.might(0, 1, 2), 0);
        due("neither sees nor hears", t.might(0, 2, 0), 0);
        due("a DOG hears another KIN", t.might(0, 2, 1), 0);
        due("its own: 2 times 1", t.might(0, 0, NONE), 2);
        due("a CHILD's own: 20 times 4 by 9", t.might(0, 1, NONE), 8);
        due("a DOG's own: 12 times 4 by 9", t.might(0, 2, NONE), 5);
        law("e9;y7;k2;s0");
        due("hears by the second LAW: 0, since it sees", t.might(1, 0, 1), 0);
        due("a CHILD hears: 9 times 7 by 9", t.might(1, 1, 2), 7);
        carriage("c12;fl");
        t.one(2, 0, 0, 5);
        t.one(2, 1, 0, 5);
        due("a DOG hears its KIN: 18 times 7 by 9", t.might(1, 0, 1), 14);
        due("a DOG sees its KIN: 15 times 4 by 9", t.might(0, 1, 0), 6);
        due("no LAW", t.might(2, 0, 0), UNKNOWN);
        due("no one", t.might(0, 2, NONE), UNKNOWN);
        due("no other", t.might(0, 0, 2), UNKNOWN);
        due("NONE is nobody", t.might(0, NONE, NONE), UNKNOWN);
        due("another below 0", t.might(0, 0, -1), UNKNOWN);
        due("both are one", t.might(0, 1, 1), OUTSIDE);
    }

    private static void yawnsTold() {
        begin(12);
        carriage("c11;f");
        due("no one", t.yawn(600, 0), UNKNOWN);
        t.one(0, 0, 0, 0);
        due("minute", t.yawn(-1, 0), OUTSIDE);
        due("minute", t.yawn(600, 0), OUTSIDE);
        due("a YAWN", t.yawn(5, 0), 0);
        due("of the same minute", t.yawn(5, 0), 1);
        due("ahead", t.yawn(4, 0), STATE);
        for (int j = 2; j < 24; j++) {
            due("a YAWN", t.yawn(599, 0), j);
        }
        due("full", t.yawn(599, 0), FULL);
        due("ahead comes before full", t.yawn(598, 0), STATE);
        due("outside comes before", t.yawn(600, 0), OUTSIDE);
        due("many(3)", t.many(3), 24);

        promise = 13;
        due("ofYawn(0, 0)", t.ofYawn(0, 0), 5);
        due("ofYawn(2, 0)", t.ofYawn(2, 0), 599);
        due("ofYawn(0, 1)", t.ofYawn(0, 1), 0);
        due("ofYawn(23, 1)", t.ofYawn(23, 1), 0);
        due("ofYawn(24, 2)", t.ofYawn(24, 2), UNKNOWN);
        due("ofYawn(-1, 0)", t.ofYawn(-1, 0), UNKNOWN);
        due("ofYawn(0, 2)", t.ofYawn(0, 2), OUTSIDE);
        due("ofYawn(0, -1)", t.ofYawn(0, -1), OUTSIDE);

        promise = 14;
        due("back(25)", t.back(25), OUTSIDE);
        due("back(-1)", t.back(-1), OUTSIDE);
        due("back(0)", t.back(0), 24);
        due("back(22)", t.back(22), 2);
        due("the last is of minute 5 again", t.yawn(4, 0), STATE);
        due("back(2)", t.back(2), 0);
        due("none ahead any more", t.yawn(0, 0), 0);
        due("back(2)", t.back(2), OUTSIDE);
        due("ofYawn(1, 0)", t.ofYawn(1, 0), UNKNOWN);
    }

    /** Two who face one another and yawn by turns, each of its own with 2, from the other with 4. */
    private static void byTurns() {
        carriage("c12;rl");
        t.one(0, 0, 8, 1);
        t.one(0, 1, 8, 2);
        law("o1;s4;e0;f1;t3");
        law("o0;s4;e0;f2;t9");
        for (int j = 0; j < 4; j++) {
            t.yawn(j, j % 2);
        }
    }

    private static void sources() {
        begin(15);
        byTurns();
        int[] sets = {0, 1, 2, 5};
        for (int j = 0; j < 4; j++) {
            due("could(0, " + j + ")", t.could(0, j), sets[j]);
        }
        due("FROM 2", t.could(1, 3), 1);
        due("FROM 2", t.could(1, 2), 0);
        due("could(2, 0)", t.could(2, 0), UNKNOWN);
        due("could(0, 4)", t.could(0, 4), UNKNOWN);
        due("could(0, -9)", t.could(0, -9), UNKNOWN);
        t.yawn(5, 0);
        due("from 1 of minute 3, not of minute 1", t.could(0, 4), 8);
        t.yawn(9, 1);
        due("not from minute 5", t.could(0, 5), 0);
        due("TILL 9", t.could(1, 5), 1 | 4 | 16);
        t.yawn(9, 0);
        due("of the same minute", t.could(1, 6) >> 5, 0);
        t.move(1, 0);
        t.blind(0, 1, true);
        due("by how they see now", t.could(0, 3), 0);

        promise = 16;
        begin(16);
        byTurns();
        dueShare(1, 0, 2, 3);
        dueShare(1, NONE, 1, 3);
        dueShare(0, NONE, 1, 1);
        dueShare(3, 0, 2, 5);
        dueShare(3, 2, 2, 5);
        dueShare(3, NONE, 1, 5);
        dueShare(3, 1, 0, 1);
        dueShare(3, 3, 0, 1);
        dueShare(0, 3, 0, 1);
        due("no LAW", t.share(2, 0, 0, 0), LOST);
        due("no YAWN", t.share(0, 4, 0, 0), LOST);
        due("no YAWN", t.share(0, NONE, 0, 0), LOST);
        due("no YAWN", t.share(0, 0, 4, 0), LOST);
        due("no YAWN", t.share(0, 0, -1, 0), LOST);
        due("which", t.share(0, 1, 0, 2), LOST);
        due("which", t.share(0, 1, 0, -1), LOST);
        due("no source", t.share(1, 1, 0, 0), LOST);
        due("a source alone", t.share(1, 3, 0, 0), 1);
        due("its own is none", t.share(1, 3, NONE, 0), 0);
        due("its own is none", t.share(1, 3, NONE, 1), 1);
    }

    private static void dueShare(int j, int i, int upper, int lower) {
        due("share(0, " + j + ", " + i + ", 0)", t.share(0, j, i, 0), upper);
        due("share(0, " + j + ", " + i + ", 1)", t.share(0, j, i, 1), lower);
    }

    private static void wholes() {
        begin(17);
        byTurns();
        due("barred(0)", t.barred(0), NONE);
        due("barred(1)", t.barred(1), 0);
        due("barred(2)", t.barred(2), UNKNOWN);
        t.back(4);
        due("without YAWNS", t.barred(1), NONE);
        law("o1;s4;e9;y1;f2");
        carriage("c13;rlf");
        t.one(0, 0, 9, 1);
        t.one(1, 1, 9, 1);
        t.yawn(0, 0);
        t.yawn(1, 1);
        due("the second one: a CHILD's own is 0, and it is too soon", t.barred(2), 1);
        due("barred(-1)", t.barred(-1), UNKNOWN);

        begin(18);
        byTurns();
        due("trees(0)", t.trees(0), 1 * 2 * 2 * 3);
        due("trees(1)", t.trees(1), 0);
        due("trees(2)", t.trees(2), UNKNOWN);
        t.back(4);
        due("without YAWNS", t.trees(1), 1);
        // 12 of minute 0, then 12 of minute 1, each of these of its own or from the 12: 13 to the 12th.
        for (int j = 0; j < 24; j++) {
            t.yawn(j / 12, j / 12);
        }
        due("modulo", t.trees(0), 23298085122481L % 1000000007L);

        begin(22);
        byTurns();
        due("chain(0)", t.chain(0), 4);
        due("BARRED or not: 0, then 3", t.chain(1), 2);
        due("chain(2)", t.chain(2), UNKNOWN);
        t.back(3);
        due("one YAWN", t.chain(1), 1);
        t.back(1);
        due("without YAWNS", t.chain(0), 0);
    }

    private static void causing() {
        begin(19);
        byTurns();
        due("causes(0, 0): two thirds and two fifths twice", t.causes(0, 0), 666666 + 400000 + 400000);
        due("causes(0, 1)", t.causes(0, 1), 666666);
        due("causes(1, 0)", t.causes(1, 0), STATE);
        due("causes(1, 2)", t.causes(1, 2), UNKNOWN);
        due("causes(2, 0)", t.causes(2, 0), UNKNOWN);
        promise = 20;
        due("most(0)", t.most(0), 0);
        due("most(1)", t.most(1), STATE);
        due("most(2)", t.most(2), UNKNOWN);
        promise = 21;
        due("goesOn(0)", t.goesOn(0), 0);
        due("goesOn(1)", t.goesOn(1), STATE);
        due("goesOn(2)", t.goesOn(2), UNKNOWN);
        t.back(4);
        promise = 19;
        due("without YAWNS", t.causes(1, 0), 0);
        promise = 20;
        due("of several the least", t.most(1), 0);
        t.yawn(0, 1);
        t.yawn(1, 0);
        due("the second", t.most(0), 1);
        carriage("c12;rl");
        due("nobody", t.most(0), NONE);
        promise = 21;
        due("nobody", t.goesOn(0), 0);

        // Two who see a third one yawn, of 81 by 82 each; then a CHILD who has it from there alone.
        carriage("c13;rrl");
        law("o1;s9;k9;y1;f1;t1");
        t.one(0, 2, 9, 1);
        t.one(0, 0, 9, 1);
        t.one(0, 1, 9, 1);
        t.yawn(0, 0);
        t.yawn(1, 1);
        due("one caused", t.goesOn(2), 0);
        t.yawn(1, 2);
        due("two caused", t.goesOn(2), 1);
        promise = 19;
        due("each cut to a millionth", t.causes(2, 0), 987804 + 987804);
        promise = 21;
        carriage("c12;rl");
        t.one(0, 0, 9, 1);
        t.one(1, 1, 9, 1);
        t.yawn(0, 0);
        t.yawn(1, 1);
        due("a million is not more", t.goesOn(2), 0);
        due("a million", t.causes(2, 0), 1000000);
    }

    private static void missedOnes() {
        begin(23);
        carriage("c12;rl");
        t.one(0, 0, 8, 1);
        t.one(0, 1, 8, 2);
        law("o0;s4;e0;f2;t3");
        law("o1");
        due("without YAWNS", t.missed(0, 0), STATE);
        dueMissed(new int[] {5, 0}, 2, 2, 1);
        dueMissed(new int[] {2, 1}, 1, 0, 0);
        dueMissed(new int[] {1, 0}, 0, NONE, NONE);
        dueMissed(new int[] {5, 0, 6, 0}, 1, 3, 1);
        dueMissed(new int[] {5, 0, 9, 0}, 0, NONE, NONE);
        dueMissed(new int[] {5, 0, 5, 1}, 0, NONE, NONE);
        // With 0 at minute 5 mended, 1 has its source at minute 5, too.
        dueMissed(new int[] {5, 0, 8, 1}, 2, 2, 1);
        due("not BARRED", t.missed(1, 0), STATE);
        due("what", t.missed(1, 3), OUTSIDE);
        due("what", t.missed(0, -1), OUTSIDE);
        due("no LAW", t.missed(2, 3), UNKNOWN);
        t.move(1, 1);
        carriage("c22;rlrl");
        for (int c = 0; c < 4; c++) {
            t.one(0, c, 0, 0);
        }
        law("o0;s1;e1;f1;t1");
        t.yawn(1, 0);
        due("whom it sees or hears", t.missed(2, 0), 2);
        due("whom it sees or hears", t.missed(2, 2), 1);
        for (int j = 1; j < 24; j++) {
            t.yawn(1, 3);
        }
        due("one more than 24", t.missed(2, 0), 2);
        due("whom both hear", t.missed(2, 2), 1);
        due("YAWNS stay", t.many(3), 24);
    }

    private static void dueMissed(int[] yawns, int number, int minute, int who) {
        t.back(t.many(3));
        for (int j = 0; j < yawns.length; j += 2) {
            t.yawn(yawns[j], yawns[j + 1]);
        }
        due("missed(0, 0)", t.missed(0, 0), number);
        due("missed(0, 1)", t.missed(0, 1), minute);
        due("missed(0, 2)", t.missed(0, 2), who);
    }

    private static void nights() {
        begin(24);
        byTurns();
        t.back(4);
        // Minute 1: 1 is below 2 of its own, 2 is not; minute 2: 2 of its own and, of one, 4 from the other.
        due("night", night(0, 1, 2, 2, 5), 2);
        due("minute", t.ofYawn(0, 0), 1);
        due("who", t.ofYawn(0, 1), 0);
        due("minute", t.ofYawn(1, 0), 2);
        due("who", t.ofYawn(1, 1), 1);
        due("from minute 3 on: 6 is not below 6", night(0, 6, 999), 0);
        due("below 6, and 1 has it from minute 1 alone", night(0, 5, 5), 1 + 0 + 1);
        due("its minute", t.ofYawn(2, 0), 3);
        due("no whole minute", night(0, 1000), 0);
        due("the rest is not looked at", night(0, 999, 999, -1), 0);
        due("a draw", night(0, 1, 1000), OUTSIDE);
        due("a draw", night(0, 0, -1), OUTSIDE);
        due("a draw of the last minute", night(0, 0, 0, 0, MAX), OUTSIDE);
        due("fault()", t.fault(), 0);
        due("nothing is changed", t.many(3), 4);
        due("no cells", night(0), 0);
        t.back(4);
        t.yawn(598, 0);
        due("till minute 599", night(0, 0, 0, 0, 0, 0, 0), 2);
        due("the last minute", t.ofYawn(2, 0), 599);
        due("behind it", night(0, 0, 0), 0);
        due("looked at, too", night(0, 0, 1000), OUTSIDE);
        t.back(3);
        for (int j = 0; j < 21; j++) {
            t.yawn(0, 0);
        }
        due("up to 24 YAWNS", night(0, 0, 0, 0, 0, 0, 0), 3);
        due("24 YAWNS", t.many(3), 24);
        due("the last one's minute", t.ofYawn(23, 0), 2);
        due("none with 24", night(0, 0, 0), 0);
        due("looked at, too", night(0, 0, 1000), OUTSIDE);
        nightRefusals();
    }

    private static void nightRefusals() {
        t.sheet(2, 2, 4);
        due("no LAW", t.night(2, 2, 3, 0, 0), UNKNOWN);
        due("no SHEET", t.night(0, 4, 3, 0, 0), UNKNOWN);
        due("no LANE", t.night(0, 2, 3, 0, 0), OUTSIDE);
        due("another LANE", t.night(0, 2, 1, 0, -1), CAST);
        due("fault()", t.fault(), 2);
        due("no LAW, another LANE", t.night(9, 2, 1, 0, -1), UNKNOWN);
        due("fault()", t.fault(), 0);
        due("nothing", t.night(0, 0, 1, 0, -1), NULL);
        due("below 0", t.night(0, 2, 2, 9, -1), SIZE);
        due("beyond", t.night(0, 2, 2, 5, 0), INDEX);
        due("beyond", t.night(0, 2, 2, 1, 4), INDEX);
        due("its end", t.night(0, 2, 2, 4, 0), 0);
        carriage("c11;f");
        t.put(2, 0, 1000);
        due("nobody, so no draw is looked at", t.night(0, 2, 2, 0, 4), STATE);
        t.one(2, 0, 0, 0);
        due("somebody, so they are", t.night(0, 2, 2, 0, 4), OUTSIDE);
        due("from behind it on", t.night(0, 2, 2, 1, 3), 3);
        due("by minutes", t.ofYawn(2, 0), 3);
    }

    private static void spreads() {
        begin(25);
        threeInARow();
        due("spread(0)", t.spread(0), 15 + 5 + 6);
        t.blind(1, 2, true);
        due("behind a BLIND", t.spread(0), 15 + 6);
        due("spread(1)", t.spread(1), UNKNOWN);
        due("spread(-1)", t.spread(-1), UNKNOWN);
        carriage("c11;f");
        due("nobody", t.spread(0), 0);

        begin(26);
        threeInARow();
        // Behind a BLIND at 0, 1 they hear: 3 and 1; 0 doesn't see 2 any more.
        due("one", t.blinds(0, 1, -1), 3 + 1);
        due("one", t.blinds(0, 1, 0), 1);
        due("one", t.blinds(0, 1, 1), NONE);
        due("two", t.blinds(0, 2, -1), 4);
        due("two", t.blinds(0, 2, 0), 1);
        due("two", t.blinds(0, 2, 1), 102);
        due("all there are", t.blinds(0, 3, -1), 4);
        due("all there are", t.blinds(0, 3, 2), NONE);
        due("none is put", t.many(4), 0);
        due("no LAW", t.blinds(1, 0, -2), UNKNOWN);
        due("k", t.blinds(0, 0, -2), OUTSIDE);
        due("k", t.blinds(0, 4, 0), OUTSIDE);
        due("q", t.blinds(0, 1, -2), UNKNOWN);
        due("q", t.blinds(0, 1, 3), UNKNOWN);
        t.blind(0, 1, true);
        due("what is left", t.blinds(0, 1, 0), 102);
        t.blind(1, 2, true);
        due("no GAP without a BLIND", t.blinds(0, 1, 0), STATE);
        due("q ahead of that", t.blinds(0, 1, 3), UNKNOWN);
        moreBlinds();
    }

    private static void moreBlinds() {
        carriage("c12;rl");
        t.one(0, 0, 0, 1);
        t.one(0, 1, 0, 2);
        law("s0;e9");
        due("a BLIND that makes it more", t.spread(1), 0);
        due("a BLIND that makes it more", t.blinds(1, 1, -1), 18);
        carriage("c11;f");
        due("no GAP at all", t.blinds(0, 1, -1), STATE);
        // By a MIRROR: 2 at the back faces it, and sees 0 and 1 past its own SEAT.
        carriage("c31m;bbb");
        t.one(0, 0, 0, 1);
        t.one(0, 2, 0, 2);
        law("s7;e0");
        due("each sees the other", t.spread(2), 14);
        due("one BLIND for both", t.blinds(2, 1, -1), 0);
        due("the first of two that do", t.blinds(2, 1, 0), 1);
        carriage("c22;rlrl");
        for (int c = 0; c < 4; c++) {
            t.one(0, c, 0, c);
        }
        due("two pairs", t.spread(2), 28);
        due("two pairs, two BLINDS", t.blinds(2, 2, -1), 0);
        due("the first pair's", t.blinds(2, 2, 0), 1);
        due("the other pair's", t.blinds(2, 2, 1), 203);
        due("three: the first row of GAPS", t.blinds(2, 3, 1), 2);
        due("three: the first row of GAPS", t.blinds(2, 3, 2), 203);
    }

    private static void films() {
        begin(27);
        threeInARow();
        law("s5;k3;y9");
        law("s9;k9;y9");
        law("s4;k3;y4");
        // LAWS 0 and 1 part but for the CHILD, who takes less by YOUNG.
        due("parts(0, 1, 0)", t.parts(0, 1, 0), 0);
        due("parts(0, 1, 1)", t.parts(0, 1, 1), 1);
        // LAWS 0 and 2: 15 and 81 of 0 from 1; 6 and 81 of 1 from 0; 5 and 9 of others.
        due("parts(0, 2, 0)", t.parts(0, 2, 0), 0);
        due("parts(0, 2, 1)", t.parts(0, 2, 1), 1);
        // LAWS 0 and 3: 15 and 12 of 0 from 1; 6 and 5 of 1 from 0; 5 and 4 of 0 from 2, the most.
        due("parts(0, 3, 0)", t.parts(0, 3, 0), 1);
        due("parts(0, 3, 1)", t.parts(0, 3, 1), 0);
        due("one LAW: the first FILM", t.parts(1, 1, 0), 0);
        due("one LAW: the first FILM", t.parts(1, 1, 1), 1);
        due("no LAW", t.parts(4, 0, 2), UNKNOWN);
        due("no LAW", t.parts(0, -1, 2), UNKNOWN);
        due("what", t.parts(0, 1, 2), OUTSIDE);
        due("what", t.parts(0, 1, -1), OUTSIDE);
        promise = 28;
        dueFilm(0, 3, 1, 0, 3, 56);
        dueFilm(0, 3, 0, 1, 2, 65);
        dueFilm(0, 3, 2, 0, 1, 30);
        dueFilm(3, 0, 1, 0, 3, 56);
        dueFilm(0, 1, 1, 0, 0, 1);
        dueFilm(0, 2, 0, 2, 0, 1);
        t.blind(0, 1, true);
        dueFilm(0, 2, 0, 1, 81 * 26 - 6 * 101, 26 * 101);
        due("no LAW", t.film(4, 0, 0, 1, 0), LOST);
        due("no LAW", t.film(0, 4, 0, 1, 0), LOST);
        due("no one", t.film(0, 1, 3, 1, 0), LOST);
        due("no one", t.film(0, 1, 1, 3, 0), LOST);
        due("no one", t.film(0, 1, NONE, 1, 0), LOST);
        due("both are one", t.film(0, 1, 1, 1, 0), LOST);
        due("which", t.film(0, 1, 0, 1, 2), LOST);
        due("which", t.film(0, 1, 0, 1, -1), LOST);
        promise = 27;
        carriage("c11;f");
        due("nobody", t.parts(0, 1, 0), STATE);
        t.one(0, 0, 0, 0);
        due("just one", t.parts(0, 1, 1), STATE);
        due("what ahead of that", t.parts(0, 1, 2), OUTSIDE);
    }

    private static void dueFilm(int l, int m, int y, int x, int upper, int lower) {
        int common = 1;
        for (int d = 2; d <= lower; d++) {
            common = upper % d == 0 && lower % d == 0 ? d : common;
        }
        String call = "film(" + l + ", " + m + ", " + y + ", " + x + ", ";
        due(call + "0)", t.film(l, m, y, x, 0), upper / common);
        due(call + "1)", t.film(l, m, y, x, 1), lower / common);
    }

    private static void sheets() {
        begin(29);
        due("sheet(3, 2, 60)", t.sheet(3, 2, 60), 1);
        due("cell", t.cell(3, 59, 2), 0);
        t.put(3, 59, 7);
        due("sheet anew", t.sheet(3, 2, 60), 1);
        due("0 at first", t.cell(3, 59, 2), 0);
        due("no cells", t.sheet(0, 0, 0), 1);
        due("fault()", t.fault(), 0);
        due("above 60", t.sheet(3, 2, 61), OUTSIDE);
        due("no LANE", t.sheet(3, 3, -1), OUTSIDE);
        due("no LANE", t.sheet(3, -1, 0), OUTSIDE);
        due("below 0", t.sheet(3, 0, -1), SIZE);
        due("fault()", t.fault(), 4);
        due("no SHEET", t.sheet(4, 3, 0), UNKNOWN);
        due("fault()", t.fault(), 0);
        due("no SHEET", t.sheet(-1, 0, 0), UNKNOWN);
        due("its row stays", t.cell(3, 59, 2), 0);

        promise = 30;
        due("lose(3)", t.lose(3), 1);
        due("lose(3)", t.lose(3), 0);
        due("lose(0): a row without cells", t.lose(0), 1);
        due("lose(4)", t.lose(4), UNKNOWN);
        due("lose(-1)", t.lose(-1), UNKNOWN);
        due("cell", t.cell(3, 0, 2), LOST);
        t.put(3, 0, 0);
        t.lose(1);
        due("fault() is none of lose()'s", t.fault(), 1);

        begin(31);
        t.sheet(0, 0, 2);
        t.sheet(1, 1, 2);
        t.sheet(2, 2, 2);
        int[] values = {127, 128, 255, 256, -129, 32767, 32768, 65535, 70001, MIN, MAX};
        for (int v : values) {
            due("put", t.put(0, 1, v), 1);
            due("put", t.put(1, 1, v), 1);
            due("put", t.put(2, 1, v), 1);
            due("a byte of " + v, t.cell(0, 1, 0), (byte) v);
            due("a short of " + v, t.cell(1, 1, 1), (short) v);
            due("an int of " + v, t.cell(2, 1, 2), v);
        }
        due("no SHEET", t.put(4, 0, 0), UNKNOWN);
        due("nothing", t.put(3, -1, 0), NULL);
        due("fault()", t.fault(), 1);
        due("beyond", t.put(0, 2, 0), INDEX);
        due("fault()", t.fault(), 3);
        due("below 0", t.put(0, -1, 0), INDEX);
        due("put", t.put(0, 0, 0), 1);
        due("fault()", t.fault(), 0);

        promise = 32;
        due("no SHEET", t.cell(4, 0, 0), LOST);
        due("fault()", t.fault(), 0);
        due("no LANE", t.cell(0, 9, 3), LOST);
        due("fault()", t.fault(), 0);
        due("another LANE", t.cell(0, 9, 1), LOST);
        due("fault()", t.fault(), 2);
        due("nothing", t.cell(3, 9, 1), LOST);
        due("fault()", t.fault(), 1);
        due("beyond", t.cell(0, 2, 0), LOST);
        due("fault()", t.fault(), 3);
        due("below 0", t.cell(0, -1, 0), LOST);
        due("fault()", t.fault(), 3);
        due("cell", t.cell(0, 0, 0), 0);
        due("fault()", t.fault(), 0);
    }

    private static void copies() {
        begin(33);
        t.sheet(0, 1, 5);
        t.sheet(1, 1, 3);
        t.sheet(2, 2, 5);
        for (int i = 0; i < 5; i++) {
            t.put(0, i, i + 1);
        }
        due("to another", t.copy(0, 2, 1, 1, 2), 2);
        dueCells(1, 0, 3, 4);
        due("the same, onwards", t.copy(0, 0, 0, 1, 4), 4);
        dueCells(0, 1, 1, 2, 3, 4);
        due("the same, back", t.copy(0, 2, 0, 0, 3), 3);
        dueCells(0, 2, 3, 4, 3, 4);
        due("none, at the ends", t.copy(0, 5, 1, 3, 0), 0);
        due("none, behind the end", t.copy(0, 6, 1, 3, 0), INDEX);
        due("none, behind the other's", t.copy(0, 5, 1, 4, 0), INDEX);
        due("fault()", t.fault(), 3);
        due("i", t.copy(0, -1, 1, 0, 1), INDEX);
        due("j", t.copy(0, 0, 1, -1, 1), INDEX);
        due("n is no SIZE", t.copy(0, 0, 1, 0, -1), INDEX);
        due("beyond", t.copy(0, 4, 1, 0, 2), INDEX);
        due("beyond the other", t.copy(0, 0, 1, 2, 2), INDEX);
        due("far beyond", t.copy(0, 1, 1, 1, MAX), INDEX);
        due("unlike LANES", t.copy(0, -1, 2, 0, -1), CAST);
        due("fault()", t.fault(), 2);
        due("nothing", t.copy(3, 0, 2, 0, 9), NULL);
        due("nothing there", t.copy(2, 0, 3, 0, 9), NULL);
        due("fault()", t.fault(), 1);
        due("no SHEET", t.copy(4, 0, 3, 0, 0), UNKNOWN);
        due("no SHEET", t.copy(3, 0, 4, 0, 0), UNKNOWN);
        due("fault()", t.fault(), 0);
        dueCells(1, 0, 3, 4);
    }

    private static void dueCells(int k, int... values) {
        for (int i = 0; i < values.length; i++) {
            due("cell " + i + " of SHEET " + k, t.cell(k, i, 1), values[i]);
        }
    }

    private static void tellings() {
        begin(34);
        carriage("c13;fff");
        t.one(0, 0, 3, 0);
        t.one(1, 1, 2, 0);
        t.one(2, 2, 1, 0);
        due("a PERSON", t.tell(0), 6);
        due("trace()", t.trace(), 1);
        due("a CHILD", t.tell(1), 107);
        due("trace()", t.trace(), (1 * 31 + 2) * 31 + 1);
        due("a DOG", t.tell(2), 108 + 8);
        int trace = 0;
        for (int number : new int[] {1, 2, 1, 3, 2, 1, 1}) {
            trace = 31 * trace + number;
        }
        due("trace()", t.trace(), trace);
        due("no one", t.tell(3), UNKNOWN);
        due("no one", t.tell(-1), UNKNOWN);
        promise = 35;
        due("a PERSON", t.wake(0), 0);
        trace = 31 * trace + 4;
        due("trace()", t.trace(), trace);
        due("a CHILD", t.wake(1), 1);
        trace = 31 * trace + 4;
        due("trace()", t.trace(), trace);
        due("a DOG", t.wake(2), 80);
        trace = 31 * trace + 5;
        promise = 37;
        due("trace()", t.trace(), trace);
        due("no one", t.wake(3), UNKNOWN);
        due("trace() stays", t.trace(), trace);
        promise = 36;
        for (int x = 0; x < 3; x++) {
            for (int kind = 0; kind < 3; kind++) {
                due("as(" + x + ", " + kind + ")", t.as(x, kind), kind <= x ? 1 : CAST);
                due("fault()", t.fault(), kind <= x ? 0 : 2);
            }
        }
        due("no one", t.as(3, 3), UNKNOWN);
        due("no kind", t.as(0, 3), OUTSIDE);
        due("no kind", t.as(0, -1), OUTSIDE);
        due("trace() stays", t.trace(), trace);
    }

    private static void faults() {
        begin(38);
        due("ahead of any", t.fault(), 0);
        carriage("c12;rl");
        t.one(0, 0, 0, 0);
        law("o1");
        t.as(0, 1);
        due("fault()", t.fault(), 2);
        t.ofOne(9, 9);
        t.blind(9, 9, true);
        t.tell(0);
        t.wake(0);
        t.lose(9);
        t.yawn(0, 0);
        t.share(0, 0, 0, 9);
        t.film(0, 0, 0, 0, 0);
        t.back(99);
        t.blinds(0, 9, 0);
        t.trace();
        t.many(9);
        due("calls that name no FAULTS", t.fault(), 2);
        int[] answers = new int[8];
        for (int call = 0; call < 8; call++) {
            t.as(0, 1);
            switch (call) {
                case 0: t.carriage(9, 0, 0, 0); break;
                case 1: t.law(9, 0, 0, 0); break;
                case 2: t.night(9, 0, 0, 0, 0); break;
                case 3: t.sheet(9, 0, 0); break;
                case 4: t.put(9, 0, 0); break;
                case 5: t.cell(9, 0, 0); break;
                case 6: t.copy(9, 0, 0, 0, 0); break;
                default: t.as(9, 0); break;
            }
            answers[call] = t.fault();
            due("refused, call " + call, answers[call], 0);
        }
        t.as(0, 1);
        law("x");
        due("a FIRST FAULT is none of them", t.fault(), 0);
        t.law(3, 2, 0, -1);
        due("fault()", t.fault(), 4);
        law("s1");
        due("come to none", t.fault(), 0);
    }

    private static void counts() {
        begin(39);
        carriage("c12;rl");
        t.one(0, 0, 0, 0);
        t.blind(0, 1, true);
        law("o1");
        law("o2");
        law("o3");
        t.yawn(0, 0);
        t.yawn(0, 0);
        t.yawn(0, 0);
        t.yawn(0, 0);
        int[] all = {2, 1, 3, 4, 1};
        for (int what = 0; what < 5; what++) {
            due("many(" + what + ")", t.many(what), all[what]);
        }
        due("many(5)", t.many(5), OUTSIDE);
        due("many(-1)", t.many(-1), OUTSIDE);
    }

    private static void constants() {
        promise = 0;
        due("UNKNOWN", YawnTrain.UNKNOWN, -1);
        due("OUTSIDE", YawnTrain.OUTSIDE, -2);
        due("STATE", YawnTrain.STATE, -3);
        due("FULL", YawnTrain.FULL, -4);
        due("NONE", YawnTrain.NONE, -9);
        due("LOST", YawnTrain.LOST, Long.MIN_VALUE);
    }

    public static void main(String[] args) {
        constants();
        newObject();
        carriages();
        seats();
        lines();
        blindsPut();
        ones();
        ofOnes();
        moves();
        laws();
        ofLaws();
        mights();
        yawnsTold();
        sources();
        wholes();
        causing();
        missedOnes();
        nights();
        spreads();
        films();
        sheets();
        copies();
        tellings();
        faults();
        counts();
        System.out.println(wrong == 0 ? "all promises hold" : wrong + " answers are not as due");
        if (wrong != 0) {
            System.exit(1);
        }
    }
}
