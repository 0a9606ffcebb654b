/** Boundary cases of promises 6 to 11: ONES, LAWS, MIGHT. */
public final class OnesBoundsRuns extends Bounds {

    // ---- promise 6

    static void p06_unknownSeat(Train t) {
        refused("SEAT -1", x -> x.one(0, -1, 0, 0), UNKNOWN);
        refused("SEAT 6 of 6", x -> x.one(0, 6, 0, 0), UNKNOWN);
        refused("SEAT MAX", x -> x.one(0, MAX, 0, 0), UNKNOWN);
        refused("SEAT MIN", x -> x.one(0, MIN, 0, 0), UNKNOWN);
    }

    static void p06_kindOutside(Train t) {
        refused("kind -1", x -> x.one(-1, 1, 0, 0), OUTSIDE);
        refused("kind 3", x -> x.one(3, 1, 0, 0), OUTSIDE);
        refused("kind MAX", x -> x.one(MAX, 1, 0, 0), OUTSIDE);
    }

    static void p06_sleptOutside(Train t) {
        refused("SLEPT -1", x -> x.one(0, 1, -1, 0), OUTSIDE);
        refused("SLEPT 10", x -> x.one(0, 1, 10, 0), OUTSIDE);
        refused("SLEPT MIN", x -> x.one(0, 1, MIN, 0), OUTSIDE);
    }

    static void p06_kinOutside(Train t) {
        refused("KIN -1", x -> x.one(0, 1, 0, -1), OUTSIDE);
        refused("KIN 10", x -> x.one(0, 1, 0, 10), OUTSIDE);
        refused("KIN MAX", x -> x.one(0, 1, 0, MAX), OUTSIDE);
    }

    static void p06_leastAndGreatest(Train t) {
        t.carriage("c14;ffff");
        due("least", t.one(0, 0, 0, 0), 0);
        due("greatest", t.one(2, 3, 9, 9), 1);
        int[][] told = {{0, 0, 0, 0}, {2, 3, 9, 9}};
        for (int x = 0; x < 2; x++) {
            for (int what = 0; what < 4; what++) {
                due("ofOne(" + x + ", " + what + ")", t.ofOne(x, what), told[x][what]);
            }
        }
    }

    static void p06_somebodyIsThere(Train t) {
        refused("SEAT 0", x -> x.one(0, 0, 0, 0), STATE);
        refused("SEAT 2", x -> x.one(2, 2, 9, 9), STATE);
        refused("SEAT 4", x -> x.one(1, 4, 9, 9), STATE);
    }

    static void p06_whereSomebodyWas(Train t) {
        t.carriage("c12;ff");
        t.one(0, 0, 0, 0);
        t.move(0, 1);
        due("the SEAT left", t.one(0, 0, 0, 0), 1);
        due("the SEAT taken", t.one(0, 1, 0, 0), STATE);
    }

    static void p06_full(Train t) {
        t.carriage("c44;ffffffffffffffff");
        for (int x = 0; x < 12; x++) {
            due("one", t.one(x % 3, x, 0, 0), x);
        }
        due("a thirteenth", t.one(0, 12, 0, 0), FULL);
        due("many(1)", t.many(1), 12);
        refusedIn(Bounds::fullScene, "a thirteenth", x -> x.one(0, 15, 9, 9), FULL, 3);
    }

    static void p06_orderOfRefusals(Train t) {
        refused("SEAT ahead of kind", x -> x.one(3, 6, 0, 0), UNKNOWN);
        refused("SEAT ahead of SLEPT, KIN", x -> x.one(0, -1, 10, 10), UNKNOWN);
        refused("kind ahead of somebody", x -> x.one(3, 0, 0, 0), OUTSIDE);
        refused("SLEPT ahead of somebody", x -> x.one(0, 0, 10, 0), OUTSIDE);
        refused("KIN ahead of somebody", x -> x.one(0, 0, 0, 10), OUTSIDE);
        refusedIn(Bounds::fullScene, "SEAT ahead of FULL", x -> x.one(0, 16, 0, 0), UNKNOWN, 3);
        refusedIn(Bounds::fullScene, "SLEPT ahead of FULL", x -> x.one(0, 15, -1, 0), OUTSIDE, 3);
        refusedIn(Bounds::fullScene, "somebody ahead of FULL", x -> x.one(0, 11, 0, 0), STATE, 3);
    }

    // ---- promise 7

    static void p07_unknown(Train t) {
        refused("ONE -1", x -> x.ofOne(-1, 0), UNKNOWN);
        refused("ONE 3 of 3", x -> x.ofOne(3, 0), UNKNOWN);
        refused("ONE NONE", x -> x.ofOne(NONE, 5), UNKNOWN);
        refused("ONE MAX", x -> x.ofOne(MAX, 4), UNKNOWN);
        fullScene(t);
        due("ONE 11 of 12", t.ofOne(11, 1), 11);
        due("ONE 12 of 12", t.ofOne(12, 1), UNKNOWN);
    }

    static void p07_outside(Train t) {
        refused("what -1", x -> x.ofOne(0, -1), OUTSIDE);
        refused("what 6", x -> x.ofOne(0, 6), OUTSIDE);
        refused("what MIN", x -> x.ofOne(2, MIN), OUTSIDE);
    }

    static void p07_orderOfRefusals(Train t) {
        refused("ONE ahead of what", x -> x.ofOne(3, 6), UNKNOWN);
    }

    static void p07_eachNumber(Train t) {
        scene(t);
        int[][] told = {{0, 0, 3, 1}, {1, 2, 8, 1}, {2, 4, 0, 2}};
        for (int x = 0; x < 3; x++) {
            for (int what = 0; what < 4; what++) {
                due("ofOne(" + x + ", " + what + ")", t.ofOne(x, what), told[x][what]);
            }
        }
    }

    /** Its own SEAT is on its LINE by a MIRROR; but one SEES another. */
    static void p07_seesNotItself(Train t) {
        t.carriage("c21m;fb");
        t.one(0, 0, 0, 0);
        due("its SEAT is on its LINE", t.line(0, 0), 1);
        due("alone", t.ofOne(0, 4), 0);
        t.one(0, 1, 0, 0);
        due("the other one by the MIRROR", t.ofOne(0, 4), 2);
        due("the other one by the MIRROR", t.ofOne(1, 4), 1);
    }

    static void p07_seesWhoeverIsBetween(Train t) {
        t.carriage("c14;rlll");
        for (int c = 0; c < 4; c++) {
            t.one(0, 3 - c, 0, 0);
        }
        due("all", t.ofOne(3, 4), 7);
        due("all", t.ofOne(0, 4), 14);
        due("one way", t.ofOne(2, 4), 8);
    }

    static void p07_seesNotBehindABlind(Train t) {
        t.carriage("c13;rrl");
        for (int c = 0; c < 3; c++) {
            t.one(0, c, 0, 0);
        }
        t.blind(0, 1, true);
        due("ONE 0", t.ofOne(0, 4), 0);
        due("ONE 1", t.ofOne(1, 4), 4);
        due("ONE 2", t.ofOne(2, 4), 2);
    }

    static void p07_hearsThroughABlind(Train t) {
        t.carriage("c22;ffff");
        for (int c = 0; c < 4; c++) {
            t.one(0, c, 0, 0);
        }
        t.blind(0, 1, true);
        t.blind(0, 2, true);
        due("both beside, not across", t.ofOne(0, 5), 2 | 4);
        due("ONE 1", t.ofOne(1, 5), 1 | 8);
        due("ONE 2", t.ofOne(2, 5), 1 | 8);
        due("ONE 3", t.ofOne(3, 5), 2 | 4);
    }

    static void p07_hearsNotFarther(Train t) {
        t.carriage("c23;ffffff");
        for (int c = 0; c < 6; c++) {
            t.one(0, c, 0, 0);
        }
        due("at a side: not two on", t.ofOne(0, 5), 1 << 1 | 1 << 3);
        due("in the middle", t.ofOne(1, 5), 1 | 1 << 2 | 1 << 4);
        due("at a row's end: not the next row", t.ofOne(2, 5), 1 << 1 | 1 << 5);
        due("at a row's beginning", t.ofOne(3, 5), 1 | 1 << 4);
        due("not itself", t.ofOne(4, 5), 1 << 1 | 1 << 3 | 1 << 5);
    }

    static void p07_nobodyNear(Train t) {
        t.carriage("c13;rfl");
        t.one(0, 0, 0, 0);
        due("nobody else: sees", t.ofOne(0, 4), 0);
        due("nobody else: hears", t.ofOne(0, 5), 0);
        t.one(0, 2, 0, 0);
        due("an empty SEAT between: sees", t.ofOne(0, 4), 2);
        due("an empty SEAT between: hears", t.ofOne(0, 5), 0);
    }

    static void p07_setsOfTwelve(Train t) {
        t.carriage("c84;rrrlrrrlrrrlrrrlrrrlrrrlrrrlrrrl");
        for (int x = 0; x < 11; x++) {
            t.one(0, 8 + x, 0, 0);
        }
        t.one(0, 19, 0, 0);
        due("ONE 8 sees to ONE 11", t.ofOne(8, 4), 1 << 9 | 1 << 10 | 1 << 11);
        due("ONE 11 sees to ONE 8", t.ofOne(11, 4), 1 << 8 | 1 << 9 | 1 << 10);
        due("ONE 10 hears ONE 11", t.ofOne(10, 5), 1 << 6 | 1 << 9 | 1 << 11);
    }

    static void p07_byWhereTheySitNow(Train t) {
        t.carriage("c14;rlff");
        t.one(0, 0, 0, 0);
        t.one(0, 1, 0, 0);
        t.move(0, 3);
        due("from SEAT 3: sees", t.ofOne(0, 4), 0);
        due("from SEAT 3: hears", t.ofOne(0, 5), 0);
        due("SEAT 0 is empty", t.ofOne(1, 4), 0);
        t.move(1, 2);
        due("beside it again", t.ofOne(0, 5), 2);
    }

    // ---- promise 8

    static void p08_unknown(Train t) {
        refused("ONE -1", x -> x.move(-1, 1), UNKNOWN);
        refused("ONE 3 of 3", x -> x.move(3, 1), UNKNOWN);
        refused("SEAT -1", x -> x.move(0, -1), UNKNOWN);
        refused("SEAT 6 of 6", x -> x.move(0, 6), UNKNOWN);
        refused("both", x -> x.move(MAX, MIN), UNKNOWN);
    }

    static void p08_somebodyIsThere(Train t) {
        refused("another one", x -> x.move(0, 2), STATE);
        refused("another one", x -> x.move(2, 0), STATE);
    }

    static void p08_itIsThere(Train t) {
        refused("it, too", x -> x.move(0, 0), STATE);
        refused("it, too", x -> x.move(2, 4), STATE);
    }

    static void p08_orderOfRefusals(Train t) {
        refused("no ONE, ahead of somebody", x -> x.move(3, 0), UNKNOWN);
    }

    static void p08_theSeatWhereItWas(Train t) {
        t.carriage("c13;fff");
        t.one(1, 0, 4, 5);
        due("from SEAT 0", t.move(0, 2), 0);
        due("from SEAT 2", t.move(0, 1), 2);
        due("back to where it was", t.move(0, 0), 1);
        due("its SEAT", t.ofOne(0, 1), 0);
        due("its kind", t.ofOne(0, 0), 1);
        due("its SLEPT", t.ofOne(0, 2), 4);
        due("its KIN", t.ofOne(0, 3), 5);
    }

    static void p08_yawnsStay(Train t) {
        scene(t);
        t.move(0, 1);
        due("many(3)", t.many(3), 3);
        due("who", t.ofYawn(0, 1), 0);
        due("many(1)", t.many(1), 3);
    }

    // ---- promise 9

    private static void dueText(String text, int want) {
        Train t = new Train();
        due("law " + text, t.law(text), want);
        due("fault() behind " + text, t.fault(), 0);
        due("LAWS behind " + text, t.many(2), want == 0 ? 1 : 0);
    }

    static void p09_leastDigits(Train t) {
        for (String letter : new String[] {"o", "s", "e", "y"}) {
            dueText(letter + "0", 0);
            dueText(letter + "/", -101);
        }
        for (String letter : new String[] {"k", "f", "t"}) {
            dueText(letter + "1", 0);
            dueText(letter + "0", -101);
            dueText(letter + "/", -101);
        }
    }

    static void p09_greatestDigits(Train t) {
        for (char letter : "osekyft".toCharArray()) {
            dueText(letter + "9", 0);
            dueText(letter + ":", -101);
            dueText(letter + "10", -102);
        }
    }

    static void p09_letters(Train t) {
        for (int code = 'A'; code <= 'z'; code++) {
            dueText((char) code + "1", "osekyft".indexOf(code) >= 0 ? 0 : -100);
        }
        dueText("1", -100);
        dueText(";", -100);
        dueText(" o1", -100);
    }

    static void p09_noneTwice(Train t) {
        for (char letter : "osekyft".toCharArray()) {
            dueText(letter + "1;" + letter, -103);
            dueText(letter + "1;" + letter + "1", -103);
        }
        dueText("o1;s1;o1", -106);
        dueText("k1;y1;k1", -106);
    }

    static void p09_oneToSevenItems(Train t) {
        String all = "t1;f1;y1;k1;e1;s1;o1";
        for (int items = 1; items <= 7; items++) {
            dueText(all.substring(0, 3 * items - 1), 0);
        }
    }

    static void p09_noEighthItem(Train t) {
        dueText("o1;s1;e1;k1;y1;f1;t1;", -120);
        dueText("o1;s1;e1;k1;y1;f1;t1;o1", -120);
        dueText("o1;s1;e1;k1;y1;f1;t1o", -120);
        dueText("o1;s1;e1;k1;y1;f1;", -118);
    }

    static void p09_endsTooSoon(Train t) {
        String text = "o1;s2;k3";
        for (int n = 0; n <= text.length(); n++) {
            dueText(text.substring(0, n), n % 3 == 2 ? 0 : -100 - n);
        }
    }

    static void p09_emptyText(Train t) {
        dueText("", -100);
        t.sheet(0, 1, 3);
        due("none of three cells", t.law(0, 1, 1, 0), -100);
        due("none behind three cells", t.law(0, 1, 3, 0), -100);
    }

    static void p09_marksBetween(Train t) {
        dueText("o1:s1", -102);
        dueText("o1s1", -102);
        dueText("o1;;s1", -103);
        dueText(";o1", -100);
        dueText("o;1", -101);
        dueText("o1 ", -102);
    }

    static void p09_firstOfSeveralFaults(Train t) {
        dueText("xx1xx", -100);
        dueText("k0;x", -101);
        dueText("o1xx", -102);
        dueText("o1;xx", -103);
        dueText("o1;k0;x", -104);
    }

    static void p09_codesCutToALane(Train t) {
        t.fill(0, 0, 'o' + 256, '1' - 512);
        due("bytes", t.law(0, 0, 0, 2), 0);
        t.fill(1, 1, 'o' + 256, '1');
        due("shorts", t.law(1, 1, 0, 2), -100);
        t.fill(1, 1, 'o' + 65536, '1');
        due("shorts", t.law(1, 1, 0, 2), 1);
        t.fill(2, 2, 'o' + 65536, '1');
        due("ints", t.law(2, 2, 0, 2), -100);
        t.fill(2, 2, 'o', '1' + 65536);
        due("ints", t.law(2, 2, 0, 2), -101);
        t.fill(2, 2, 'o', MIN);
        due("ints", t.law(2, 2, 0, 2), -101);
    }

    static void p09_cellsFromIOn(Train t) {
        t.write(3, 2, "s4o7y1");
        due("from cell 2", t.law(3, 2, 2, 2), 0);
        due("OWN", t.ofLaw(0, 0), 7);
        due("SIGHT is not told", t.ofLaw(0, 1), 6);
        due("YOUNG is not told", t.ofLaw(0, 4), 3);
        due("one cell more", t.law(3, 2, 2, 3), -102);
        due("one cell less", t.law(3, 2, 2, 1), -101);
        due("the last cells", t.law(3, 2, 4, 2), 1);
    }

    static void p09_full(Train t) {
        for (int l = 0; l < 6; l++) {
            due("law", t.law("s" + l), l);
        }
        due("a seventh", t.law("o1"), FULL);
        due("fault()", t.fault(), 0);
        due("many(2)", t.many(2), 6);
        due("the last one stays", t.ofLaw(5, 1), 5);
        refusedIn(Bounds::fullScene, "a seventh", x -> x.law(0, 0, 5, 2), FULL, 0);
    }

    static void p09_refusedTextChangesNothing(Train t) {
        faulted("a wrong code", x -> x.law(0, 0, 0, 7), -100, 0);
        faulted("it ends too soon", x -> x.law(1, 1, 5, 1), -101, 0);
        faulted("no code", x -> x.law(2, 2, 5, 0), -100, 0);
    }

    static void p09_unknownSheet(Train t) {
        faulted("SHEET -1", x -> x.law(-1, 0, 5, 2), UNKNOWN, 0);
        faulted("SHEET 4", x -> x.law(4, 0, 5, 2), UNKNOWN, 0);
    }

    static void p09_laneOutside(Train t) {
        faulted("LANE -1", x -> x.law(0, -1, 5, 2), OUTSIDE, 0);
        faulted("LANE 3", x -> x.law(2, 3, 5, 2), OUTSIDE, 0);
    }

    static void p09_cast(Train t) {
        faulted("bytes as shorts", x -> x.law(0, 1, 5, 2), CAST, 2);
        faulted("bytes as ints", x -> x.law(0, 2, 5, 2), CAST, 2);
        faulted("shorts as bytes", x -> x.law(1, 0, 5, 2), CAST, 2);
        faulted("shorts as ints", x -> x.law(1, 2, 5, 2), CAST, 2);
        faulted("ints as bytes", x -> x.law(2, 0, 5, 2), CAST, 2);
        faulted("ints as shorts", x -> x.law(2, 1, 5, 2), CAST, 2);
    }

    static void p09_nothingIsNoCastButNull(Train t) {
        for (int lane = 0; lane < 3; lane++) {
            int as = lane;
            faulted("nothing as LANE " + lane, x -> x.law(3, as, 0, 0), NULL, 1);
        }
    }

    static void p09_sizeBelow0(Train t) {
        faulted("n -1", x -> x.law(0, 0, 5, -1), SIZE, 4);
        faulted("n MIN", x -> x.law(0, 0, 7, MIN), SIZE, 4);
    }

    static void p09_index(Train t) {
        faulted("i -1", x -> x.law(0, 0, -1, 2), INDEX, 3);
        faulted("one cell beyond", x -> x.law(0, 0, 5, 3), INDEX, 3);
        faulted("the last one beyond", x -> x.law(0, 0, 7, 1), INDEX, 3);
        faulted("i and n wrap", x -> x.law(0, 0, 5, MAX), INDEX, 3);
        faulted("none, i -1", x -> x.law(0, 0, -1, 0), INDEX, 3);
        faulted("none, i 8 of 7", x -> x.law(0, 0, 8, 0), INDEX, 3);
        faulted("none, i 7 of 7", x -> x.law(0, 0, 7, 0), -100, 0);
    }

    static void p09_orderOfRefusals(Train t) {
        faulted("SHEET ahead of LANE", x -> x.law(4, 3, -1, -1), UNKNOWN, 0);
        faulted("LANE ahead of NULL", x -> x.law(3, 3, -1, -1), OUTSIDE, 0);
        faulted("LANE ahead of SIZE", x -> x.law(0, 3, -1, -1), OUTSIDE, 0);
        faulted("CAST ahead of SIZE", x -> x.law(0, 1, 5, -1), CAST, 2);
        faulted("CAST ahead of INDEX", x -> x.law(0, 1, 9, 0), CAST, 2);
        faulted("NULL ahead of SIZE", x -> x.law(3, 0, 0, -1), NULL, 1);
        faulted("NULL ahead of INDEX", x -> x.law(3, 0, -1, 1), NULL, 1);
        faulted("SIZE ahead of INDEX", x -> x.law(0, 0, -1, -1), SIZE, 4);
        faulted("INDEX ahead of the TEXT", x -> x.law(0, 0, 0, 8), INDEX, 3);
        refusedIn(Bounds::fullScene, "INDEX ahead of FULL", x -> x.law(0, 0, 5, 3), INDEX, 3);
        refusedIn(Bounds::fullScene, "the TEXT ahead of FULL", x -> x.law(0, 0, 5, 1), -101, 0);
        refusedIn(Bounds::fullScene, "LANE ahead of FULL", x -> x.law(0, 3, 5, 2), OUTSIDE, 0);
    }

    // ---- promise 10

    static void p10_unknown(Train t) {
        refused("LAW -1", x -> x.ofLaw(-1, 0), UNKNOWN);
        refused("LAW 2 of 2", x -> x.ofLaw(2, 0), UNKNOWN);
        refused("LAW MAX", x -> x.ofLaw(MAX, 0), UNKNOWN);
        fullScene(t);
        due("LAW 5 of 6", t.ofLaw(5, 0), 1);
        due("LAW 6 of 6", t.ofLaw(6, 0), UNKNOWN);
    }

    static void p10_noSuchNumber(Train t) {
        refused("NUMBER -1", x -> x.ofLaw(0, -1), UNKNOWN);
        refused("NUMBER 7", x -> x.ofLaw(0, 7), UNKNOWN);
        refused("NUMBER MIN", x -> x.ofLaw(1, MIN), UNKNOWN);
    }

    private static void dueNumbers(String text, int... numbers) {
        Train t = new Train();
        due("law " + text, t.law(text), 0);
        for (int what = 0; what < 7; what++) {
            due("ofLaw(0, " + what + ") of " + text, t.ofLaw(0, what), numbers[what]);
        }
    }

    static void p10_whatIsNotTold(Train t) {
        dueNumbers("o0", 0, 6, 2, 3, 3, 1, 5);
        dueNumbers("s0", 1, 0, 2, 3, 3, 1, 5);
        dueNumbers("e0", 1, 6, 0, 3, 3, 1, 5);
        dueNumbers("k1", 1, 6, 2, 1, 3, 1, 5);
        dueNumbers("y0", 1, 6, 2, 3, 0, 1, 5);
        dueNumbers("f2", 1, 6, 2, 3, 3, 2, 5);
        dueNumbers("t1", 1, 6, 2, 3, 3, 1, 1);
    }

    static void p10_leastAndGreatest(Train t) {
        dueNumbers("o0;s0;e0;k1;y0;f1;t1", 0, 0, 0, 1, 0, 1, 1);
        dueNumbers("t9;f9;y9;k9;e9;s9;o9", 9, 9, 9, 9, 9, 9, 9);
    }

    static void p10_tillIsFromIfLess(Train t) {
        dueNumbers("f5;t4", 1, 6, 2, 3, 3, 5, 5);
        dueNumbers("t4;f5", 1, 6, 2, 3, 3, 5, 5);
        dueNumbers("f5;t5", 1, 6, 2, 3, 3, 5, 5);
        dueNumbers("f5;t6", 1, 6, 2, 3, 3, 5, 6);
        dueNumbers("t1;f9", 1, 6, 2, 3, 3, 9, 9);
    }

    static void p10_tillNotToldIsFromIfLess(Train t) {
        dueNumbers("f4", 1, 6, 2, 3, 3, 4, 5);
        dueNumbers("f5", 1, 6, 2, 3, 3, 5, 5);
        dueNumbers("f6", 1, 6, 2, 3, 3, 6, 6);
        dueNumbers("f9", 1, 6, 2, 3, 3, 9, 9);
    }

    /** What one TEXT told, the next one doesn't leave as it was; nor does a TEXT that isn't taken. */
    static void p10_eachLawApart(Train t) {
        t.law("o9;s9;f8");
        due("refused", t.law("e9;k9;x"), -106);
        t.law("y9");
        int[][] told = {{9, 9, 2, 3, 3, 8, 8}, {1, 6, 2, 3, 9, 1, 5}};
        for (int l = 0; l < 2; l++) {
            for (int what = 0; what < 7; what++) {
                due("ofLaw(" + l + ", " + what + ")", t.ofLaw(l, what), told[l][what]);
            }
        }
    }

    // ---- promise 11

    /** MIGHT of ONE 0 to catch it from ONE 1, on SEATS 0 and 1 of a TEXT, of these kinds and KIN. */
    private static void dueMight(String carriage, String law, int kind, int kin, int otherKin, int want) {
        Train t = new Train();
        t.carriage(carriage);
        t.law(law);
        t.one(kind, 0, 0, kin);
        t.one(0, 1, 0, otherKin);
        due("might by " + law + " in " + carriage + " of kind " + kind, t.might(0, 0, 1), want);
    }

    private static void dueOwn(String law, int kind, int slept, int want) {
        Train t = new Train();
        t.carriage("c11m;f");
        t.law(law);
        t.one(kind, 0, slept, 1);
        due("its own by " + law + " of kind " + kind + ", slept " + slept, t.might(0, 0, NONE), want);
    }

    static void p11_sightElseEarElse0(Train t) {
        dueMight("c12;rl", "s5;e3", 0, 1, 2, 5);
        dueMight("c12;rl", "s0;e9", 0, 1, 2, 0);
        dueMight("c12;fr", "s5;e3", 0, 1, 2, 3);
        dueMight("c12;fr", "s9;e0", 0, 1, 2, 0);
    }

    static void p11_neitherSeesNorHears(Train t) {
        t.carriage("c13;frl");
        t.law("s9;e9;k9");
        t.one(0, 0, 0, 1);
        t.one(0, 2, 0, 1);
        due("two SEATS on", t.might(0, 0, 1), 0);
        due("it is seen", t.might(0, 1, 0), 81);
    }

    static void p11_hearsBehindABlind(Train t) {
        t.carriage("c12;rl");
        t.law("s5;e3");
        t.one(0, 0, 0, 1);
        t.one(0, 1, 0, 2);
        t.blind(0, 1, true);
        due("EAR", t.might(0, 0, 1), 3);
        t.blind(0, 1, false);
        due("SIGHT", t.might(0, 0, 1), 5);
    }

    static void p11_seesByAMirror(Train t) {
        dueMight("c21m;fb", "s7;e1", 0, 1, 2, 7);
        dueMight("c21;fb", "s7;e1", 0, 1, 2, 1);
    }

    static void p11_sameKin(Train t) {
        dueMight("c12;rl", "s5;k9", 0, 1, 1, 45);
        dueMight("c12;rl", "s5;k1", 0, 1, 1, 5);
        dueMight("c12;rl", "s5;k9", 0, 1, 0, 5);
        dueMight("c12;rl", "s5;k9", 0, 0, 0, 45);
        dueMight("c12;rl", "s5;k9", 0, 9, 9, 45);
        dueMight("c12;fr", "e2;k4", 0, 9, 9, 8);
    }

    static void p11_greatest(Train t) {
        dueMight("c12;rl", "s9;k9;y9", 0, 1, 1, 81);
        dueMight("c12;rl", "s9;k9;y9", 1, 1, 1, 81);
        dueMight("c12;rl", "s9;k9;y9", 2, 1, 1, 81);
    }

    /** The quotient is cut, and taken behind KIN. */
    static void p11_childsQuotient(Train t) {
        dueMight("c12;rl", "s9;y0", 1, 1, 2, 0);
        dueMight("c12;rl", "s9;y9", 1, 1, 2, 9);
        dueMight("c12;rl", "s1;y8", 1, 1, 2, 0);
        dueMight("c12;rl", "s1;y9", 1, 1, 2, 1);
        dueMight("c12;rl", "s5;y3", 1, 1, 2, 1);
        dueMight("c12;rl", "s6;y3", 1, 1, 2, 2);
        dueMight("c12;rl", "s1;k2;y5", 1, 1, 1, 1);
        dueMight("c12;rl", "s5;k5;y7", 1, 1, 1, 19);
        dueMight("c12;fr", "e5;y4", 1, 1, 2, 2);
    }

    static void p11_dogOfAnotherKin(Train t) {
        dueMight("c12;rl", "s9;k9;y9", 2, 1, 2, 0);
        dueMight("c12;fr", "e9;k9;y9", 2, 1, 2, 0);
        dueMight("c12;rl", "s9;k9;y9", 2, 0, 9, 0);
    }

    static void p11_dogOfItsKin(Train t) {
        dueMight("c12;rl", "s5;k5;y7", 2, 1, 1, 19);
        dueMight("c12;rl", "s5;k5;y0", 2, 1, 1, 0);
        dueMight("c12;fr", "e1;k2;y5", 2, 0, 0, 1);
    }

    /** A CHILD, a DOG give it as a PERSON does: it's the taker's kind that counts. */
    static void p11_takersKindCounts(Train t) {
        t.carriage("c13;rrl");
        t.law("s5;y0");
        t.one(0, 0, 0, 1);
        t.one(1, 1, 0, 2);
        t.one(2, 2, 0, 3);
        due("from a CHILD", t.might(0, 0, 1), 5);
        due("from a DOG", t.might(0, 0, 2), 5);
        due("of a CHILD", t.might(0, 1, 2), 0);
    }

    static void p11_itsOwn(Train t) {
        dueOwn("o1", 0, 9, 1);
        dueOwn("o1", 0, 0, 10);
        dueOwn("o9", 0, 0, 90);
        dueOwn("o9", 0, 9, 9);
        dueOwn("o0", 0, 0, 0);
        dueOwn("o7", 0, 5, 35);
    }

    static void p11_itsOwnOfAChild(Train t) {
        dueOwn("o1;y3", 1, 9, 0);
        dueOwn("o1;y3", 1, 0, 3);
        dueOwn("o1;y9", 1, 9, 1);
        dueOwn("o9;y9", 1, 0, 90);
        dueOwn("o9;y0", 1, 0, 0);
        dueOwn("o2;y4", 1, 3, 6);
    }

    static void p11_itsOwnOfADog(Train t) {
        dueOwn("o2;y4", 2, 3, 6);
        dueOwn("o9;y9", 2, 0, 90);
        dueOwn("o1;y3", 2, 9, 0);
    }

    static void p11_unknown(Train t) {
        refused("LAW -1", x -> x.might(-1, 0, 1), UNKNOWN);
        refused("LAW 2 of 2", x -> x.might(2, 0, 1), UNKNOWN);
        refused("x -1", x -> x.might(0, -1, 1), UNKNOWN);
        refused("x 3 of 3", x -> x.might(0, 3, 1), UNKNOWN);
        refused("x NONE", x -> x.might(0, NONE, 1), UNKNOWN);
        refused("y -1", x -> x.might(0, 0, -1), UNKNOWN);
        refused("y 3 of 3", x -> x.might(0, 0, 3), UNKNOWN);
        refused("y beside NONE", x -> x.might(0, 0, NONE - 1), UNKNOWN);
        refused("y beside NONE", x -> x.might(0, 0, NONE + 1), UNKNOWN);
    }

    static void p11_bothAreOne(Train t) {
        refused("0 from 0", x -> x.might(0, 0, 0), OUTSIDE);
        refused("2 from 2", x -> x.might(1, 2, 2), OUTSIDE);
    }

    static void p11_orderOfRefusals(Train t) {
        refused("LAW ahead of both are one", x -> x.might(2, 0, 0), UNKNOWN);
        refused("both are one that isn't there", x -> x.might(0, 3, 3), UNKNOWN);
        refused("both are NONE", x -> x.might(0, NONE, NONE), UNKNOWN);
        refused("LAW, its own", x -> x.might(2, 0, NONE), UNKNOWN);
    }

    public static void main(String[] args) throws Exception {
        runAll(OnesBoundsRuns.class, 6, 11);
    }
}
