/** Boundary cases of promises 1 to 5: a new object, the CARRIAGE, its SEATS, LINES and BLINDS. */
public final class CarriageBoundsRuns extends Bounds {
    private static final String MOST_SEATS = "ffffbbbbllllrrrrffffbbbbllllrrrr";

    // ---- promise 1

    static void p01_noCarriage(Train t) {
        due("many(0)", t.many(0), 0);
        due("many(4)", t.many(4), 0);
        due("ofSeat(0, 0)", t.ofSeat(0, 0), UNKNOWN);
        due("line(0, 0)", t.line(0, 0), UNKNOWN);
        due("blind(0, 1, true)", t.blind(0, 1, true), UNKNOWN);
        due("one(0, 0, 0, 0)", t.one(0, 0, 0, 0), UNKNOWN);
    }

    static void p01_nobody(Train t) {
        due("many(1)", t.many(1), 0);
        due("ofOne(0, 0)", t.ofOne(0, 0), UNKNOWN);
        due("move(0, 0)", t.move(0, 0), UNKNOWN);
        due("yawn(0, 0)", t.yawn(0, 0), UNKNOWN);
        due("tell(0)", t.tell(0), UNKNOWN);
        due("wake(0)", t.wake(0), UNKNOWN);
        due("as(0, 0)", t.as(0, 0), UNKNOWN);
    }

    static void p01_noLaws(Train t) {
        due("many(2)", t.many(2), 0);
        due("ofLaw(0, 0)", t.ofLaw(0, 0), UNKNOWN);
        due("might(0, 0, NONE)", t.might(0, 0, NONE), UNKNOWN);
        due("could(0, 0)", t.could(0, 0), UNKNOWN);
        due("share(0, 0, 0, 0)", t.share(0, 0, 0, 0), LOST);
        due("barred(0)", t.barred(0), UNKNOWN);
        due("trees(0)", t.trees(0), UNKNOWN);
        due("causes(0, 0)", t.causes(0, 0), UNKNOWN);
        due("most(0)", t.most(0), UNKNOWN);
        due("goesOn(0)", t.goesOn(0), UNKNOWN);
        due("chain(0)", t.chain(0), UNKNOWN);
        due("missed(0, 0)", t.missed(0, 0), UNKNOWN);
        due("night(0, 0, 0, 0, 0)", t.night(0, 0, 0, 0, 0), UNKNOWN);
        due("spread(0)", t.spread(0), UNKNOWN);
        due("blinds(0, 1, 0)", t.blinds(0, 1, 0), UNKNOWN);
        due("parts(0, 0, 0)", t.parts(0, 0, 0), UNKNOWN);
        due("film(0, 0, 0, 0, 0)", t.film(0, 0, 0, 0, 0), LOST);
    }

    static void p01_noYawns(Train t) {
        due("many(3)", t.many(3), 0);
        due("ofYawn(0, 0)", t.ofYawn(0, 0), UNKNOWN);
        due("back(0)", t.back(0), 0);
        due("back(1)", t.back(1), OUTSIDE);
    }

    static void p01_sheetsHaveNothing(Train t) {
        for (int k = 0; k < 4; k++) {
            due("lose", t.lose(k), 0);
            due("put", t.put(k, 0, 0), NULL);
            for (int lane = 0; lane < 3; lane++) {
                due("cell", t.cell(k, 0, lane), LOST);
                due("fault()", t.fault(), 1);
                due("carriage", t.carriage(k, lane, 0, 0), NULL);
                due("law", t.law(k, lane, 0, 0), NULL);
            }
        }
    }

    static void p01_objectsAreApart(Train t) {
        scene(new Train());
        due("many(0)", t.many(0), 0);
        due("many(1)", t.many(1), 0);
        due("many(2)", t.many(2), 0);
        due("many(3)", t.many(3), 0);
        due("trace()", t.trace(), 0);
        due("fault()", t.fault(), 0);
        due("lose(0)", t.lose(0), 0);
    }

    /** A LAW needs no CARRIAGE; without one nobody yawns, and no GAP is there. */
    static void p01_aLawAlone(Train t) {
        due("law", t.law("o1"), 0);
        due("barred(0)", t.barred(0), NONE);
        due("trees(0)", t.trees(0), 1);
        due("most(0)", t.most(0), NONE);
        due("goesOn(0)", t.goesOn(0), 0);
        due("chain(0)", t.chain(0), 0);
        due("missed(0, 0)", t.missed(0, 0), STATE);
        due("night(0)", t.nightBy(0), STATE);
        due("spread(0)", t.spread(0), 0);
        due("blinds(0, 1, 0)", t.blinds(0, 1, 0), STATE);
        due("parts(0, 0, 0)", t.parts(0, 0, 0), STATE);
    }

    // ---- promise 2

    /** What a TEXT answers; a fault of it is no FAULT. */
    private static void dueText(String text, int want) {
        Train t = new Train();
        due("carriage " + text, t.carriage(text), want);
        due("fault() behind " + text, t.fault(), 0);
        due("SEATS behind " + text, t.many(0), Math.max(want, 0));
    }

    static void p02_howManySeats(Train t) {
        for (int l = 1; l <= 8; l++) {
            for (int wide = 1; wide <= 4; wide++) {
                dueText("c" + l + wide + ";" + MOST_SEATS.substring(0, l * wide), l * wide);
                dueText("c" + l + wide + "m;" + MOST_SEATS.substring(0, l * wide), l * wide);
            }
        }
    }

    static void p02_longTooSmall(Train t) {
        dueText("c01;f", -101);
        dueText("c/1;f", -101);
        dueText("c11;f", 1);
    }

    static void p02_longTooLarge(Train t) {
        dueText("c91;fffffffff", -101);
        dueText("c:1;ffffffffff", -101);
        dueText("c81;ffffffff", 8);
    }

    static void p02_wideTooSmall(Train t) {
        dueText("c10;f", -102);
        dueText("c1/;f", -102);
        dueText("c11;f", 1);
    }

    static void p02_wideTooLarge(Train t) {
        dueText("c15;fffff", -102);
        dueText("c18;ffffffff", -102);
        dueText("c14;ffff", 4);
    }

    static void p02_firstCode(Train t) {
        dueText("C11;f", -100);
        dueText("b11;f", -100);
        dueText("d11;f", -100);
        dueText(" c11;f", -100);
        dueText("11;f", -100);
    }

    static void p02_mirrorsCode(Train t) {
        dueText("c11m;f", 1);
        dueText("c11mm;f", -104);
        dueText("c11M;f", -103);
        dueText("c11l;f", -103);
        dueText("c11n;f", -103);
        dueText("c1m1;f", -102);
        dueText("cm11;f", -101);
    }

    static void p02_markAheadOfSeats(Train t) {
        dueText("c11f", -103);
        dueText("c11:f", -103);
        dueText("c11<f", -103);
        dueText("c11mf", -104);
        dueText("c11m:f", -104);
        dueText("c11;;f", -104);
        dueText("c11m;;f", -105);
    }

    static void p02_seatCodes(Train t) {
        for (int code = 'a'; code <= 'z'; code++) {
            dueText("c12;f" + (char) code, "fblr".indexOf(code) >= 0 ? 2 : -105);
        }
        dueText("c12;fF", -105);
        dueText("c12;f;", -105);
        dueText("c12;f1", -105);
    }

    /** It ends too soon behind any code of it: how many codes there are. */
    static void p02_endsTooSoon(Train t) {
        for (String text : new String[] {"c21;fb", "c21m;fb"}) {
            for (int n = 0; n < text.length(); n++) {
                dueText(text.substring(0, n), -100 - n);
            }
            dueText(text, 2);
        }
        dueText("c84;" + MOST_SEATS.substring(1), -100 - 35);
        dueText("c84m;" + MOST_SEATS.substring(1), -100 - 36);
    }

    static void p02_emptyText(Train t) {
        dueText("", -100);
        t.sheet(0, 0, 4);
        due("none of four cells", t.carriage(0, 0, 2, 0), -100);
        due("none behind four cells", t.carriage(0, 0, 4, 0), -100);
    }

    static void p02_oneSeatTooMany(Train t) {
        dueText("c11;ff", -105);
        dueText("c11m;ff", -106);
        dueText("c23;fffffff", -110);
        dueText("c84;" + MOST_SEATS + "f", -100 - 36);
        dueText("c11;f;", -105);
        dueText("c11;fm", -105);
    }

    static void p02_firstOfSeveralFaults(Train t) {
        dueText("x99x;x", -100);
        dueText("c99x;x", -101);
        dueText("c19x;x", -102);
        dueText("c11x;x", -103);
        dueText("c12;xx", -104);
        dueText("c12;fxx", -105);
    }

    static void p02_codesCutToALane(Train t) {
        int[] far = {'c' + 256, '1' - 256, '1' + 512, ';' + 65536, 'f' - 65536};
        t.fill(0, 0, far);
        due("bytes", t.carriage(0, 0, 0, 5), 1);
        t.fill(1, 1, far);
        due("shorts", t.carriage(1, 1, 0, 5), -100);
        t.fill(1, 1, 'c' + 65536, '1' - 65536, '1', ';', 'f');
        due("shorts", t.carriage(1, 1, 0, 5), 1);
        t.fill(2, 2, 'c' + 65536, '1', '1', ';', 'f');
        due("ints", t.carriage(2, 2, 0, 5), -100);
        t.fill(2, 2, 'c', '1' + 256, '1', ';', 'f');
        due("ints", t.carriage(2, 2, 0, 5), -101);
        t.fill(2, 2, 'c', '1', '1' - 256, ';', 'f');
        due("ints", t.carriage(2, 2, 0, 5), -102);
        t.fill(2, 2, 'c', '1', '1', ';', MIN);
        due("ints", t.carriage(2, 2, 0, 5), -104);
    }

    static void p02_anyLane(Train t) {
        for (int lane = 0; lane < 3; lane++) {
            t.write(lane, lane, "c1" + (lane + 1) + ";lll".substring(0, lane + 2));
            due("LANE " + lane, t.carriage(lane, lane, 0, 5 + lane), lane + 1);
        }
    }

    static void p02_cellsFromIOn(Train t) {
        t.write(3, 2, "c8c12;rll");
        due("from cell 2", t.carriage(3, 2, 2, 6), 2);
        due("from cell 0", t.carriage(3, 2, 0, 9), -102);
        due("one cell less", t.carriage(3, 2, 2, 5), -105);
        due("one cell more", t.carriage(3, 2, 2, 7), -106);
        due("the last cell alone", t.carriage(3, 2, 8, 1), -100);
        due("from cell 3", t.carriage(3, 2, 3, 5), -100);
    }

    static void p02_nobodyAnew(Train t) {
        scene(t);
        due("carriage", t.carriage("c32m;fbrlbf"), 6);
        due("many(1)", t.many(1), 0);
        due("ofOne(0, 0)", t.ofOne(0, 0), UNKNOWN);
        due("tell(0)", t.tell(0), UNKNOWN);
        due("who is there", t.ofSeat(0, 1), NONE);
        due("who is there", t.ofSeat(2, 1), NONE);
        due("who is there", t.ofSeat(4, 1), NONE);
        due("nobody spreads", t.spread(0), 0);
    }

    static void p02_numbersAnew(Train t) {
        fullScene(t);
        due("full", t.one(0, 15, 0, 0), FULL);
        t.carriage("c44;ffffffffffffffff");
        for (int x = 0; x < 12; x++) {
            due("one", t.one(1, 15 - x, 9, x % 10), x);
            due("its SEAT", t.ofOne(x, 1), 15 - x);
            due("its kind", t.ofOne(x, 0), 1);
        }
        due("full again", t.one(0, 0, 0, 0), FULL);
    }

    static void p02_noBlindsAnew(Train t) {
        scene(t);
        due("many(4)", t.many(4), 1);
        t.carriage("c32m;fbrlbf");
        due("many(4)", t.many(4), 0);
        due("no BLIND was there", t.blind(1, 3, false), 0);
        due("a LINE where it was", t.line(1, 3), 1);
    }

    static void p02_noBlindsAnewInAnyGap(Train t) {
        t.carriage("c42;ffffffff");
        int[] gaps = {0, 1, 2, 3, 4, 5, 6, 7, 0, 2, 1, 3, 2, 4, 3, 5, 4, 6, 5, 7};
        for (int p = 0; p < gaps.length; p += 2) {
            due("put", t.blind(gaps[p], gaps[p + 1], true), 1);
        }
        t.carriage("c42;ffffffff");
        due("many(4)", t.many(4), 0);
        for (int p = 0; p < gaps.length; p += 2) {
            due("no BLIND is lost", t.blind(gaps[p], gaps[p + 1], false), 0);
        }
    }

    static void p02_noYawnsAnew(Train t) {
        fullScene(t);
        t.carriage("c11;f");
        due("many(3)", t.many(3), 0);
        due("ofYawn(0, 0)", t.ofYawn(0, 0), UNKNOWN);
        t.one(0, 0, 0, 0);
        due("none is ahead of minute 0", t.yawn(0, 0), 0);
    }

    static void p02_lawsStay(Train t) {
        scene(t);
        t.carriage("c11;f");
        due("many(2)", t.many(2), 2);
        due("ofLaw(0, 1)", t.ofLaw(0, 1), 4);
        due("ofLaw(1, 0)", t.ofLaw(1, 0), 0);
        due("the next LAW", t.law("o1"), 2);
    }

    static void p02_seatsAndMirrorsAnew(Train t) {
        t.carriage("c84m;" + MOST_SEATS);
        due("a MIRROR", t.line(0, 0), 1);
        t.carriage("c12;fb");
        due("many(0)", t.many(0), 2);
        due("SEAT 2", t.ofSeat(2, 0), UNKNOWN);
        due("no MIRROR", t.line(0, 0), 0);
        due("which way", t.ofSeat(1, 0), 1);
        t.carriage("c21m;bb");
        due("a MIRROR", t.line(1, 1), 1);
        due("no GAP in a row of one", t.blind(0, 1, true), 1);
    }

    static void p02_traceAndSheetsStay(Train t) {
        scene(t);
        int trace = t.trace();
        t.carriage(0, 0, 0, 5);
        due("trace()", t.trace(), trace);
        due("cell(1, 0, 1)", t.cell(1, 0, 1), 'c');
        due("cell(0, 6, 0)", t.cell(0, 6, 0), '1');
    }

    static void p02_refusedTextChangesNothing(Train t) {
        faulted("a TEXT that ends too soon", x -> x.carriage(0, 0, 0, 4), -104, 0);
        faulted("a TEXT with a code too many", x -> x.carriage(1, 1, 0, 6), -105, 0);
        faulted("no code at all", x -> x.carriage(2, 2, 0, 0), -100, 0);
        faulted("a wrong code", x -> x.carriage(2, 2, 1, 5), -100, 0);
    }

    static void p02_unknownSheet(Train t) {
        faulted("SHEET -1", x -> x.carriage(-1, 0, 0, 5), UNKNOWN, 0);
        faulted("SHEET 4", x -> x.carriage(4, 0, 0, 5), UNKNOWN, 0);
        faulted("SHEET MIN", x -> x.carriage(MIN, 0, 0, 5), UNKNOWN, 0);
        faulted("SHEET MAX", x -> x.carriage(MAX, 0, 0, 5), UNKNOWN, 0);
    }

    static void p02_laneOutside(Train t) {
        faulted("LANE -1", x -> x.carriage(0, -1, 0, 5), OUTSIDE, 0);
        faulted("LANE 3", x -> x.carriage(0, 3, 0, 5), OUTSIDE, 0);
        faulted("LANE MAX", x -> x.carriage(2, MAX, 0, 5), OUTSIDE, 0);
    }

    static void p02_cast(Train t) {
        for (int k = 0; k < 3; k++) {
            for (int lane = 0; lane < 3; lane++) {
                int sheet = k, as = lane;
                if (k != lane) {
                    faulted("SHEET " + k + " as LANE " + lane, x -> x.carriage(sheet, as, 0, 5), CAST, 2);
                }
            }
        }
    }

    static void p02_nothingIsNoCastButNull(Train t) {
        for (int lane = 0; lane < 3; lane++) {
            int as = lane;
            faulted("nothing as LANE " + lane, x -> x.carriage(3, as, 0, 0), NULL, 1);
        }
    }

    static void p02_sizeBelow0(Train t) {
        faulted("n -1", x -> x.carriage(0, 0, 0, -1), SIZE, 4);
        faulted("n MIN", x -> x.carriage(0, 0, 7, MIN), SIZE, 4);
    }

    static void p02_index(Train t) {
        faulted("i -1", x -> x.carriage(0, 0, -1, 5), INDEX, 3);
        faulted("i MIN", x -> x.carriage(0, 0, MIN, 5), INDEX, 3);
        faulted("i behind the end", x -> x.carriage(0, 0, 8, 1), INDEX, 3);
        faulted("one cell beyond", x -> x.carriage(0, 0, 0, 8), INDEX, 3);
        faulted("the last one beyond", x -> x.carriage(0, 0, 7, 1), INDEX, 3);
        faulted("i and n wrap", x -> x.carriage(0, 0, MAX, MAX), INDEX, 3);
        faulted("i and n wrap to 0", x -> x.carriage(0, 0, 1, MAX), INDEX, 3);
    }

    static void p02_indexWhereNoneIsTaken(Train t) {
        faulted("i -1", x -> x.carriage(0, 0, -1, 0), INDEX, 3);
        faulted("i 8 of 7", x -> x.carriage(0, 0, 8, 0), INDEX, 3);
        faulted("i 7 of 7 is none", x -> x.carriage(0, 0, 7, 0), -100, 0);
        t.sheet(0, 0, 0);
        due("i 0 of 0 is none", t.carriage(0, 0, 0, 0), -100);
        due("i 1 of 0", t.carriage(0, 0, 1, 0), INDEX);
    }

    static void p02_orderOfRefusals(Train t) {
        faulted("SHEET ahead of LANE", x -> x.carriage(4, 3, -1, -1), UNKNOWN, 0);
        faulted("LANE ahead of NULL", x -> x.carriage(3, 3, -1, -1), OUTSIDE, 0);
        faulted("LANE ahead of SIZE", x -> x.carriage(0, 3, -1, -1), OUTSIDE, 0);
        faulted("CAST ahead of SIZE", x -> x.carriage(0, 1, 0, -1), CAST, 2);
        faulted("CAST ahead of INDEX", x -> x.carriage(0, 1, 9, 0), CAST, 2);
        faulted("NULL ahead of SIZE", x -> x.carriage(3, 1, 0, -1), NULL, 1);
        faulted("NULL ahead of INDEX", x -> x.carriage(3, 1, -1, 1), NULL, 1);
        faulted("SIZE ahead of INDEX", x -> x.carriage(0, 0, -1, -1), SIZE, 4);
        faulted("INDEX ahead of the TEXT", x -> x.carriage(0, 0, 1, 7), INDEX, 3);
    }

    // ---- promise 3

    static void p03_unknown(Train t) {
        refused("SEAT -1", x -> x.ofSeat(-1, 0), UNKNOWN);
        refused("SEAT 6 of 6", x -> x.ofSeat(6, 0), UNKNOWN);
        refused("SEAT NONE", x -> x.ofSeat(NONE, 2), UNKNOWN);
        refused("SEAT MIN", x -> x.ofSeat(MIN, 1), UNKNOWN);
        refused("SEAT MAX", x -> x.ofSeat(MAX, 1), UNKNOWN);
        t.carriage("c84;" + MOST_SEATS);
        due("SEAT 31 of 32", t.ofSeat(31, 0), 3);
        due("SEAT 32 of 32", t.ofSeat(32, 0), UNKNOWN);
    }

    static void p03_outside(Train t) {
        refused("what -1", x -> x.ofSeat(0, -1), OUTSIDE);
        refused("what 3", x -> x.ofSeat(0, 3), OUTSIDE);
        refused("what MIN", x -> x.ofSeat(5, MIN), OUTSIDE);
        refused("what MAX", x -> x.ofSeat(5, MAX), OUTSIDE);
    }

    static void p03_orderOfRefusals(Train t) {
        refused("SEAT ahead of what", x -> x.ofSeat(6, 3), UNKNOWN);
        refused("SEAT ahead of what", x -> x.ofSeat(-1, -1), UNKNOWN);
    }

    static void p03_whichWay(Train t) {
        t.carriage("c14;rlbf");
        due("r", t.ofSeat(0, 0), 3);
        due("l", t.ofSeat(1, 0), 2);
        due("b", t.ofSeat(2, 0), 1);
        due("f", t.ofSeat(3, 0), 0);
    }

    static void p03_whoIsThere(Train t) {
        t.carriage("c12;rl");
        due("nobody", t.ofSeat(0, 1), NONE);
        t.one(2, 0, 0, 0);
        due("ONE 0", t.ofSeat(0, 1), 0);
        due("nobody", t.ofSeat(1, 1), NONE);
        t.one(0, 1, 0, 0);
        due("ONE 1", t.ofSeat(1, 1), 1);
        t.carriage("c21;ff");
        t.one(0, 0, 0, 0);
        t.move(0, 1);
        due("nobody any more", t.ofSeat(0, 1), NONE);
        due("ONE 0", t.ofSeat(1, 1), 0);
    }

    static void p03_emptyLine(Train t) {
        t.carriage("c22;frlb");
        for (int c = 0; c < 4; c++) {
            due("LINE of SEAT " + c, t.ofSeat(c, 2), 0);
        }
    }

    static void p03_lineOfItselfByAMirror(Train t) {
        t.carriage("c12m;fr");
        due("one row", t.ofSeat(0, 2), 1);
        due("not to the side", t.ofSeat(1, 2), 0);
        t.carriage("c31m;ffb");
        due("f in row 0", t.ofSeat(0, 2), 7);
        due("f in row 1", t.ofSeat(1, 2), 7);
        due("b in row 2", t.ofSeat(2, 2), 7);
    }

    /** SEAT 30 is the highest bit that is told; SEAT 31 is left out. */
    static void p03_setOfSeats0To30(Train t) {
        t.carriage("c84m;" + MOST_SEATS.replace('b', 'f').replace('l', 'f'));
        due("SEAT 30 is in", t.ofSeat(2, 2), 0x44444444);
        due("SEAT 31 is out", t.ofSeat(3, 2), 0x08888888);
        due("r to SEAT 31", t.ofSeat(28, 2), 1 << 29 | 1 << 30);
        due("r to SEAT 31 alone", t.ofSeat(30, 2), 0);
        due("line() tells it", t.line(30, 31), 1);
        due("line() tells it", t.line(3, 31), 1);
    }

    static void p03_lineUpToABlind(Train t) {
        t.carriage("c14;rrrl");
        t.blind(1, 2, true);
        due("SEAT 0", t.ofSeat(0, 2), 1 << 1);
        due("SEAT 1", t.ofSeat(1, 2), 0);
        due("SEAT 3", t.ofSeat(3, 2), 1 << 2);
    }

    // ---- promise 4

    /** All LINES of a CARRIAGE with BLINDS in some GAPS (two SEATS each): a set of SEATS for each SEAT. */
    private static void dueLines(String text, int[] gaps, int... sets) {
        Train t = new Train();
        t.carriage(text);
        for (int p = 0; p < gaps.length; p += 2) {
            due("blind", t.blind(gaps[p], gaps[p + 1], true), 1);
        }
        for (int c = 0; c < sets.length; c++) {
            for (int d = 0; d < sets.length; d++) {
                due("line(" + c + ", " + d + ") of " + text, t.line(c, d), sets[c] >> d & 1);
            }
        }
    }

    static void p04_unknown(Train t) {
        refused("SEAT -1", x -> x.line(-1, 0), UNKNOWN);
        refused("SEAT 6 of 6", x -> x.line(6, 0), UNKNOWN);
        refused("to SEAT -1", x -> x.line(0, -1), UNKNOWN);
        refused("to SEAT 6 of 6", x -> x.line(0, 6), UNKNOWN);
        refused("to SEAT 32", x -> x.line(0, 32), UNKNOWN);
        refused("both", x -> x.line(MIN, MAX), UNKNOWN);
        refused("itself, which isn't there", x -> x.line(6, 6), UNKNOWN);
    }

    static void p04_tillTheSide(Train t) {
        dueLines("c13;rrr", new int[0], 6, 4, 0);
        dueLines("c13;lll", new int[0], 0, 1, 3);
    }

    static void p04_sidesHaveNoMirrors(Train t) {
        dueLines("c13m;rrr", new int[0], 6, 4, 0);
        dueLines("c13m;lll", new int[0], 0, 1, 3);
    }

    static void p04_noWayOnInTheNextRow(Train t) {
        dueLines("c22;rrll", new int[0], 2, 0, 0, 4);
    }

    static void p04_tillTheEndWithoutMirrors(Train t) {
        dueLines("c31;fff", new int[0], 0, 1, 3);
        dueLines("c31;bbb", new int[0], 6, 4, 0);
    }

    static void p04_backFromTheMirrorPastWhereItBegan(Train t) {
        dueLines("c31m;fff", new int[0], 7, 7, 7);
        dueLines("c31m;bbb", new int[0], 7, 7, 7);
    }

    static void p04_mirrorsAtBothEnds(Train t) {
        dueLines("c11m;f", new int[0], 1);
        dueLines("c11m;b", new int[0], 1);
        dueLines("c11m;l", new int[0], 0);
        dueLines("c11m;r", new int[0], 0);
        dueLines("c11;f", new int[0], 0);
        dueLines("c11;b", new int[0], 0);
    }

    static void p04_inItsColumnAlone(Train t) {
        dueLines("c22m;fbbf", new int[0], 5, 10, 5, 10);
        dueLines("c22;bbff", new int[0], 4, 8, 1, 2);
    }

    static void p04_tillABlind(Train t) {
        dueLines("c31;bbf", new int[] {0, 1}, 0, 4, 2);
        dueLines("c31;bbf", new int[] {1, 2}, 2, 0, 0);
        dueLines("c13;rrl", new int[] {0, 1}, 0, 4, 2);
        dueLines("c13;rrl", new int[] {1, 2}, 2, 0, 0);
    }

    static void p04_aBlindAheadOfTheMirror(Train t) {
        dueLines("c31m;bbf", new int[] {1, 2}, 2, 0, 0);
        dueLines("c31m;bff", new int[] {0, 1}, 0, 0, 2);
    }

    static void p04_aBlindOnTheWayBack(Train t) {
        dueLines("c31m;ffb", new int[] {1, 2}, 3, 3, 4);
        dueLines("c31m;fbb", new int[] {0, 1}, 1, 6, 6);
    }

    static void p04_aBlindAsideOrLostAgain(Train t) {
        dueLines("c22m;bbff", new int[] {0, 1, 2, 3}, 5, 10, 5, 10);
        dueLines("c22;rlrl", new int[] {0, 2, 1, 3}, 2, 1, 8, 4);
        t.carriage("c12;rl");
        t.blind(0, 1, true);
        due("behind a BLIND", t.line(0, 1), 0);
        t.blind(0, 1, false);
        due("it is lost", t.line(0, 1), 1);
    }

    static void p04_whoeverIsBetween(Train t) {
        t.carriage("c81;bfffffff");
        for (int c = 0; c < 8; c++) {
            t.one(0, c, 0, 0);
        }
        due("line(0, 7)", t.line(0, 7), 1);
        due("line(7, 0)", t.line(7, 0), 1);
    }

    static void p04_seat31(Train t) {
        t.carriage("c84;" + MOST_SEATS);
        due("line(30, 31)", t.line(30, 31), 1);
        due("line(31, 30)", t.line(31, 30), 0);
        due("line(27, 31)", t.line(27, 31), 0);
        due("line(31, 31)", t.line(31, 31), 0);
        due("line(31, 32)", t.line(31, 32), UNKNOWN);
    }

    // ---- promise 5

    static void p05_unknown(Train t) {
        refused("SEAT -1", x -> x.blind(-1, 0, true), UNKNOWN);
        refused("SEAT -2", x -> x.blind(0, -2, true), UNKNOWN);
        refused("SEAT 6 of 6", x -> x.blind(5, 6, true), UNKNOWN);
        refused("SEAT 7 of 6", x -> x.blind(7, 5, true), UNKNOWN);
        refused("behind the last row", x -> x.blind(4, 6, false), UNKNOWN);
        refused("both", x -> x.blind(MAX, MIN, false), UNKNOWN);
    }

    static void p05_noGap(Train t) {
        refused("a SEAT and itself", x -> x.blind(2, 2, true), OUTSIDE);
        refused("a row's end and the next row", x -> x.blind(1, 2, true), OUTSIDE);
        refused("a row's end and the next row", x -> x.blind(4, 3, true), OUTSIDE);
        refused("across", x -> x.blind(0, 3, true), OUTSIDE);
        refused("across", x -> x.blind(2, 1, true), OUTSIDE);
        refused("two rows on", x -> x.blind(0, 4, true), OUTSIDE);
        refused("to be lost", x -> x.blind(0, 5, false), OUTSIDE);
    }

    static void p05_orderOfRefusals(Train t) {
        refused("a SEAT that isn't there and itself", x -> x.blind(6, 6, true), UNKNOWN);
        refused("no SEAT, no GAP", x -> x.blind(0, 6, true), UNKNOWN);
    }

    static void p05_itWasSo(Train t) {
        t.carriage("c22;rlrl");
        due("none is lost", t.blind(0, 1, false), 0);
        due("put", t.blind(0, 1, true), 1);
        due("put twice", t.blind(0, 1, true), 0);
        due("put twice, told backwards", t.blind(1, 0, true), 0);
        due("many(4)", t.many(4), 1);
        due("lost, told backwards", t.blind(1, 0, false), 1);
        due("lost twice", t.blind(0, 1, false), 0);
        due("many(4)", t.many(4), 0);
    }

    static void p05_allGaps(Train t) {
        t.carriage("c84;" + MOST_SEATS);
        int gaps = 0;
        for (int c = 0; c < 32; c++) {
            if (c % 4 < 3) {
                due("beside " + c, t.blind(c, c + 1, true), 1);
                gaps++;
                due("many(4)", t.many(4), gaps);
            }
            if (c < 28) {
                due("behind " + c, t.blind(c + 4, c, true), 1);
                gaps++;
                due("many(4)", t.many(4), gaps);
            }
        }
        due("24 and 28", t.many(4), 52);
        for (int c = 0; c < 32; c++) {
            due("behind all BLINDS", t.line(c, Math.abs(c - 1)), 0);
        }
    }

    static void p05_oneColumnOneRow(Train t) {
        t.carriage("c31;fff");
        due("one behind another", t.blind(0, 1, true), 1);
        due("one behind another", t.blind(1, 2, true), 1);
        due("many(4)", t.many(4), 2);
        due("each once", t.blind(1, 0, true), 0);
        due("two rows on", t.blind(0, 2, true), OUTSIDE);
        t.carriage("c14;ffff");
        due("beside one another", t.blind(2, 3, true), 1);
        due("two places on", t.blind(1, 3, true), OUTSIDE);
        t.carriage("c11;f");
        due("the only SEAT", t.blind(0, 0, true), OUTSIDE);
        due("the only SEAT", t.blind(0, 1, true), UNKNOWN);
    }

    public static void main(String[] args) throws Exception {
        runAll(CarriageBoundsRuns.class, 1, 5);
    }
}
