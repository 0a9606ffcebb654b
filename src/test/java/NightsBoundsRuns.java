/** Boundary cases of promises 24 to 28: NIGHTS, SPREAD, BLINDS, PARTS, FILMS. */
public final class NightsBoundsRuns extends Bounds {

    /** ONES 0 and 1 who see one another, of unlike KIN, each with 2 of its own by LAW 0, 4 from the other. */
    private static void pair(Train t) {
        t.carriage("c12;rl");
        t.one(0, 0, 8, 1);
        t.one(0, 1, 8, 2);
        t.law("o1;s4;e0;f1;t3");
    }

    private static void dueYawn(Train t, int j, int minute, int who) {
        due("minute of YAWN " + j, t.ofYawn(j, 0), minute);
        due("who of YAWN " + j, t.ofYawn(j, 1), who);
    }

    // ---- promise 24

    static void p24_fromMinute1OnIfThereIsNone(Train t) {
        pair(t);
        due("night", t.nightBy(0, 0, 0), 2);
        dueYawn(t, 0, 1, 0);
        dueYawn(t, 1, 1, 1);
    }

    static void p24_behindTheLastYawn(Train t) {
        pair(t);
        t.yawns(7, 1);
        due("night", t.nightBy(0, 0, 999, 999, 0), 2);
        dueYawn(t, 1, 8, 0);
        dueYawn(t, 2, 9, 1);
        t.back(3);
        t.yawns(0, 0);
        due("behind minute 0", t.nightBy(0, 999, 0), 1);
        dueYawn(t, 1, 1, 1);
    }

    static void p24_aMinuteWithoutYawnsIsNoYawn(Train t) {
        pair(t);
        due("nobody yawns", t.nightBy(0, 999, 999, 999, 999), 0);
        due("so from minute 1 on again", t.nightBy(0, 0, 999), 1);
        dueYawn(t, 0, 1, 0);
    }

    static void p24_belowItsMight(Train t) {
        pair(t);
        due("2 is not below 2", t.nightBy(0, 2, 2), 0);
        due("1 is", t.nightBy(0, 1, 1), 2);
    }

    static void p24_mightOf0(Train t) {
        pair(t);
        t.law("o0;s4");
        due("0 is not below 0", t.nightBy(1, 0, 0, 0, 0), 0);
        t.yawns(3, 0);
        due("of the other's alone", t.nightBy(1, 0, 0, 0, 0), 3);
        dueYawn(t, 1, 4, 1);
        dueYawn(t, 2, 5, 0);
        dueYawn(t, 3, 5, 1);
    }

    static void p24_ofAllItsSources(Train t) {
        pair(t);
        t.yawns(1, 0, 2, 0);
        due("2 and 4 and 4, not below 10", t.nightBy(0, 999, 10), 0);
        due("9 is", t.nightBy(0, 999, 9), 1);
        dueYawn(t, 2, 3, 1);
    }

    static void p24_fromTillMinutesAhead(Train t) {
        pair(t);
        t.law("o1;s4;f2;t2");
        t.yawns(5, 0);
        due("1 minute ahead: 2; 2 minutes: 6; 3 minutes: 2", t.nightBy(1, 999, 2, 999, 5, 999, 2), 1);
        dueYawn(t, 1, 7, 1);
    }

    static void p24_yawnsOfThisMinuteAreNone(Train t) {
        pair(t);
        due("1 has 2 of its own", t.nightBy(0, 0, 2), 1);
        due("and 4 of the minute ahead", t.nightBy(0, 999, 5), 1);
        dueYawn(t, 1, 2, 1);
    }

    static void p24_yawnsOfThisNight(Train t) {
        pair(t);
        due("in one NIGHT", t.nightBy(0, 0, 2, 999, 5), 2);
        dueYawn(t, 0, 1, 0);
        dueYawn(t, 1, 2, 1);
        t.back(2);
        due("not below 6", t.nightBy(0, 0, 2, 999, 6), 1);
    }

    static void p24_yawnsThatComeAreToldOnes(Train t) {
        pair(t);
        t.nightBy(0, 0, 2, 999, 5);
        due("many(3)", t.many(3), 2);
        due("could(0, 1)", t.could(0, 1), 1);
        due("ahead of the last", t.yawn(1, 0), STATE);
        due("back(1)", t.back(1), 1);
        due("yawn(1, 1)", t.yawn(1, 1), 1);
    }

    static void p24_draws0To999(Train t) {
        pair(t);
        due("0 and 999", t.nightBy(0, 0, 999), 1);
        due("-1", t.nightBy(0, 0, -1), OUTSIDE);
        due("fault()", t.fault(), 0);
        due("1000", t.nightBy(0, 0, 1000), OUTSIDE);
        due("MIN", t.nightBy(0, MIN, 0), OUTSIDE);
        due("MAX", t.nightBy(0, MAX, 0), OUTSIDE);
        due("many(3)", t.many(3), 1);
    }

    static void p24_aDrawOutsideChangesNothing(Train t) {
        for (int bad : new int[] {-1, 1000}) {
            for (int at = 0; at < 6; at++) {
                int place = at;
                refusedIn(x -> {
                    scene(x);
                    x.fill(2, 2, 0, 0, 0, 0, 0, 0, 0);
                    x.put(2, place, bad);
                    x.put(0, 99, 0);
                }, "draw " + at + " of 6", x -> x.night(0, 2, 2, 0, 7), OUTSIDE, 0);
            }
        }
    }

    static void p24_theRestIsNotLookedAt(Train t) {
        pair(t);
        due("a third draw of two ONES", t.nightBy(0, 999, 999, -1), 0);
        due("a first draw of two", t.nightBy(0, 1000), 0);
        due("a fifth one", t.nightBy(0, 0, 999, 999, 999, MAX), 1);
        t.carriage("c13;rll");
        for (int c = 0; c < 3; c++) {
            t.one(0, c, 0, 0);
        }
        due("two of three", t.nightBy(0, 0, 0, 0, -1, -1), 3);
        due("none of three", t.nightBy(0, -1, -1), 0);
        due("three of three", t.nightBy(0, 0, 0, -1), OUTSIDE);
    }

    static void p24_noCells(Train t) {
        pair(t);
        due("a row of none", t.nightBy(0), 0);
        t.sheet(0, 0, 4);
        due("none of four", t.night(0, 0, 0, 0, 0), 0);
        due("none behind four", t.night(0, 0, 0, 4, 0), 0);
        due("many(3)", t.many(3), 0);
    }

    static void p24_cellsFromIOn(Train t) {
        pair(t);
        t.fill(3, 2, -1, 0, 999, 999, 0, 1000);
        due("from cell 1 on, 4 cells", t.night(0, 3, 2, 1, 4), 2);
        dueYawn(t, 0, 1, 0);
        dueYawn(t, 1, 2, 1);
        due("from cell 2 on, 4 cells", t.night(0, 3, 2, 2, 4), OUTSIDE);
        due("from cell 0 on", t.night(0, 3, 2, 0, 2), OUTSIDE);
        due("the cells stay", t.cell(3, 1, 2), 0);
    }

    static void p24_drawsOfALane(Train t) {
        pair(t);
        t.fill(0, 0, 127, 257);
        due("257 is 1 as a byte", t.night(0, 0, 0, 0, 2), 1);
        dueYawn(t, 0, 1, 1);
        t.fill(0, 0, 0, 200);
        due("200 is -56 as a byte", t.night(0, 0, 0, 0, 2), OUTSIDE);
        t.fill(1, 1, 999, 65537);
        due("65537 is 1 as a short", t.night(0, 1, 1, 0, 2), 1);
        t.fill(1, 1, 1000, 0);
        due("1000 as a short", t.night(0, 1, 1, 0, 2), OUTSIDE);
    }

    static void p24_allOfASheet(Train t) {
        t.carriage("c11;f");
        t.one(0, 0, 0, 0);
        t.law("o1");
        int[] draws = new int[60];
        java.util.Arrays.fill(draws, 10);
        draws[59] = 9;
        due("60 minutes of one", t.nightBy(0, draws), 1);
        dueYawn(t, 0, 60, 0);
    }

    static void p24_upTo24Yawns(Train t) {
        pair(t);
        for (int j = 0; j < 21; j++) {
            t.yawn(4, 0);
        }
        due("three of six", t.nightBy(0, 0, 0, 0, 0, 0, 0), 3);
        due("many(3)", t.many(3), 24);
        dueYawn(t, 22, 5, 1);
        dueYawn(t, 23, 6, 0);
    }

    static void p24_noneBehind24(Train t) {
        pair(t);
        for (int j = 0; j < 24; j++) {
            t.yawn(4, 0);
        }
        due("none", t.nightBy(0, 0, 0), 0);
        due("draws are looked at", t.nightBy(0, 0, 1000), OUTSIDE);
        due("draws are looked at", t.nightBy(0, 0, 0, 0, -1), OUTSIDE);
        due("many(3)", t.many(3), 24);
        t.back(1);
        due("one more", t.nightBy(0, 0, 0), 1);
    }

    static void p24_upToMinute599(Train t) {
        pair(t);
        t.yawns(597, 0);
        due("598, 599, not 600", t.nightBy(0, 999, 0, 0, 999, 0, 0), 2);
        dueYawn(t, 1, 598, 1);
        dueYawn(t, 2, 599, 0);
        due("many(3)", t.many(3), 3);
    }

    static void p24_noneBehindMinute599(Train t) {
        pair(t);
        t.yawns(599, 0);
        due("none", t.nightBy(0, 0, 0, 0, 0), 0);
        due("draws are looked at", t.nightBy(0, 0, 0, 0, 1000), OUTSIDE);
        due("draws are looked at", t.nightBy(0, -1, 0), OUTSIDE);
        due("many(3)", t.many(3), 1);
    }

    static void p24_nobody(Train t) {
        t.law("o1");
        due("without a CARRIAGE", t.nightBy(0, 0, 0), STATE);
        t.carriage("c12;rl");
        due("in an empty one", t.nightBy(0, 0, 0), STATE);
        due("no draws", t.nightBy(0), STATE);
        due("no draw is looked at", t.nightBy(0, -1, 1000), STATE);
        due("fault()", t.fault(), 0);
        due("SIZE ahead of it", t.night(0, 3, 2, 0, -1), SIZE);
        due("INDEX ahead of it", t.night(0, 3, 2, 0, 3), INDEX);
        due("NULL ahead of it", t.night(0, 2, 2, 0, 0), NULL);
    }

    static void p24_unknown(Train t) {
        faulted("LAW -1", x -> x.night(-1, 0, 0, 0, 7), UNKNOWN, 0);
        faulted("LAW 2 of 2", x -> x.night(2, 0, 0, 0, 7), UNKNOWN, 0);
        faulted("SHEET -1", x -> x.night(0, -1, 0, 0, 7), UNKNOWN, 0);
        faulted("SHEET 4", x -> x.night(0, 4, 0, 0, 7), UNKNOWN, 0);
    }

    static void p24_laneOutside(Train t) {
        faulted("LANE -1", x -> x.night(0, 0, -1, 0, 7), OUTSIDE, 0);
        faulted("LANE 3", x -> x.night(0, 0, 3, 0, 7), OUTSIDE, 0);
    }

    static void p24_cast(Train t) {
        faulted("bytes as shorts", x -> x.night(0, 0, 1, 0, 7), CAST, 2);
        faulted("shorts as ints", x -> x.night(0, 1, 2, 0, 7), CAST, 2);
        faulted("ints as bytes", x -> x.night(0, 2, 0, 0, 7), CAST, 2);
    }

    static void p24_nothingIsNoCastButNull(Train t) {
        for (int lane = 0; lane < 3; lane++) {
            int as = lane;
            faulted("nothing as LANE " + lane, x -> x.night(0, 3, as, 0, 0), NULL, 1);
        }
    }

    static void p24_sizeBelow0(Train t) {
        faulted("n -1", x -> x.night(0, 0, 0, 0, -1), SIZE, 4);
        faulted("n MIN", x -> x.night(0, 0, 0, 7, MIN), SIZE, 4);
    }

    static void p24_index(Train t) {
        faulted("i -1", x -> x.night(0, 0, 0, -1, 3), INDEX, 3);
        faulted("one cell beyond", x -> x.night(0, 0, 0, 0, 8), INDEX, 3);
        faulted("the rest beyond", x -> x.night(0, 0, 0, 1, 7), INDEX, 3);
        faulted("i and n wrap", x -> x.night(0, 0, 0, 2, MAX), INDEX, 3);
        faulted("none, i -1", x -> x.night(0, 0, 0, -1, 0), INDEX, 3);
        faulted("none, i 8 of 7", x -> x.night(0, 0, 0, 8, 0), INDEX, 3);
        faulted("none, i 7 of 7", x -> x.night(0, 0, 0, 7, 0), 0, 0);
    }

    static void p24_orderOfRefusals(Train t) {
        faulted("LAW ahead of LANE", x -> x.night(2, 0, 3, 0, 7), UNKNOWN, 0);
        faulted("LAW ahead of CAST", x -> x.night(2, 0, 1, 0, 7), UNKNOWN, 0);
        faulted("LAW ahead of NULL", x -> x.night(2, 3, 1, 0, 7), UNKNOWN, 0);
        faulted("SHEET ahead of LANE", x -> x.night(0, 4, 3, -1, -1), UNKNOWN, 0);
        faulted("LANE ahead of NULL", x -> x.night(0, 3, 3, -1, -1), OUTSIDE, 0);
        faulted("CAST ahead of SIZE", x -> x.night(0, 0, 1, -1, -1), CAST, 2);
        faulted("NULL ahead of SIZE", x -> x.night(0, 3, 1, -1, -1), NULL, 1);
        faulted("SIZE ahead of INDEX", x -> x.night(0, 0, 0, -1, -1), SIZE, 4);
        pair(t);
        t.fill(3, 2, 1000, 1000);
        due("INDEX ahead of a draw", t.night(0, 3, 2, 0, 3), INDEX);
        due("SIZE ahead of a draw", t.night(0, 3, 2, 0, -1), SIZE);
    }

    // ---- promise 25

    static void p25_unknown(Train t) {
        refused("LAW -1", x -> x.spread(-1), UNKNOWN);
        refused("LAW 2 of 2", x -> x.spread(2), UNKNOWN);
    }

    static void p25_fewerThanTwo(Train t) {
        t.law("o9;s9;e9");
        due("without a CARRIAGE", t.spread(0), 0);
        t.carriage("c21m;fb");
        due("nobody", t.spread(0), 0);
        t.one(0, 0, 0, 0);
        due("one, which is on its LINE by a MIRROR", t.spread(0), 0);
        t.one(0, 1, 0, 1);
        due("two", t.spread(0), 18);
    }

    static void p25_ofAllFromAll(Train t) {
        t.carriage("c81m;ffffffff");
        t.law("o9;s9;k9");
        for (int x = 0; x < 8; x++) {
            t.one(0, x, 0, 5);
        }
        due("8 from 7, the greatest MIGHT", t.spread(0), 8 * 7 * 81);
    }

    static void p25_byWhereTheySitNow(Train t) {
        t.carriage("c13;rlf");
        t.law("s5;e1");
        t.one(0, 0, 0, 1);
        t.one(0, 1, 0, 2);
        due("each sees the other", t.spread(0), 10);
        t.blind(0, 1, true);
        due("each hears the other", t.spread(0), 2);
        t.blind(0, 1, false);
        t.move(1, 2);
        due("one sees the other", t.spread(0), 5);
    }

    static void p25_nobodyOfTheCarriageAhead(Train t) {
        t.carriage("c41m;ffff");
        for (int x = 0; x < 4; x++) {
            t.one(0, x, 0, 1);
        }
        t.law("s9;k9");
        due("four", t.spread(0), 4 * 3 * 81);
        t.carriage("c12;rl");
        t.one(0, 0, 0, 1);
        due("one", t.spread(0), 0);
        t.one(0, 1, 0, 2);
        due("two", t.spread(0), 18);
    }

    // ---- promise 26

    static void p26_unknownLaw(Train t) {
        refused("LAW -1", x -> x.blinds(-1, 1, 0), UNKNOWN);
        refused("LAW 2 of 2", x -> x.blinds(2, 1, 0), UNKNOWN);
    }

    static void p26_howManyOutside(Train t) {
        refused("k 0", x -> x.blinds(0, 0, 0), OUTSIDE);
        refused("k 4", x -> x.blinds(0, 4, 0), OUTSIDE);
        refused("k -1", x -> x.blinds(0, -1, -1), OUTSIDE);
        refused("k MAX", x -> x.blinds(0, MAX, 2), OUTSIDE);
    }

    static void p26_unknownPlace(Train t) {
        refused("q -2", x -> x.blinds(0, 1, -2), UNKNOWN);
        refused("q 3", x -> x.blinds(0, 3, 3), UNKNOWN);
        refused("q NONE", x -> x.blinds(0, 3, NONE), UNKNOWN);
        refused("q MAX", x -> x.blinds(0, 3, MAX), UNKNOWN);
    }

    static void p26_noGapWithoutABlind(Train t) {
        t.law("o1");
        due("without a CARRIAGE", t.blinds(0, 1, -1), STATE);
        t.carriage("c11;f");
        due("one SEAT", t.blinds(0, 1, -1), STATE);
        t.carriage("c12;rl");
        due("one GAP", t.blinds(0, 1, 0), 1);
        t.blind(0, 1, true);
        due("it has a BLIND", t.blinds(0, 1, 0), STATE);
        due("it has a BLIND", t.blinds(0, 3, -1), STATE);
    }

    static void p26_orderOfRefusals(Train t) {
        refused("LAW ahead of k", x -> x.blinds(2, 0, 3), UNKNOWN);
        refused("k ahead of q", x -> x.blinds(0, 0, 3), OUTSIDE);
        refused("k ahead of q", x -> x.blinds(0, 4, -2), OUTSIDE);
        t.law("o1");
        t.carriage("c11;f");
        due("k ahead of no GAP", t.blinds(0, 4, 0), OUTSIDE);
        due("q ahead of no GAP", t.blinds(0, 1, 3), UNKNOWN);
        due("q ahead of no GAP", t.blinds(0, 1, -2), UNKNOWN);
    }

    private static void dueBlinds(Train t, int k, int spread, int first, int second, int third) {
        due("blinds(0, " + k + ", -1)", t.blinds(0, k, -1), spread);
        due("blinds(0, " + k + ", 0)", t.blinds(0, k, 0), first);
        due("blinds(0, " + k + ", 1)", t.blinds(0, k, 1), second);
        due("blinds(0, " + k + ", 2)", t.blinds(0, k, 2), third);
    }

    /** Nobody is there, so all sets are alike. */
    static void p26_ofSeveralSetsTheFirst(Train t) {
        t.law("o1");
        t.carriage("c22;fblr");
        dueBlinds(t, 1, 0, 1, NONE, NONE);
        dueBlinds(t, 2, 0, 1, 2, NONE);
        dueBlinds(t, 3, 0, 1, 2, 103);
        t.blind(0, 2, true);
        dueBlinds(t, 3, 0, 1, 103, 203);
        t.carriage("c41;fblr");
        dueBlinds(t, 3, 0, 1, 102, 203);
        t.carriage("c14;fblr");
        dueBlinds(t, 3, 0, 1, 102, 203);
    }

    static void p26_allThereAreIfFewer(Train t) {
        t.law("o1");
        t.carriage("c12;rl");
        dueBlinds(t, 1, 0, 1, NONE, NONE);
        dueBlinds(t, 2, 0, 1, NONE, NONE);
        dueBlinds(t, 3, 0, 1, NONE, NONE);
        t.carriage("c22;rlrl");
        t.blind(0, 1, true);
        t.blind(2, 3, true);
        dueBlinds(t, 3, 0, 2, 103, NONE);
        t.blind(0, 2, true);
        dueBlinds(t, 3, 0, 103, NONE, NONE);
    }

    static void p26_asManyAsAskedFor(Train t) {
        t.law("s1;e9");
        t.carriage("c12;rl");
        t.one(0, 0, 0, 1);
        t.one(0, 1, 0, 2);
        due("spread(0)", t.spread(0), 2);
        dueBlinds(t, 1, 18, 1, NONE, NONE);
        t.carriage("c13;rlf");
        t.one(0, 0, 0, 1);
        t.one(0, 1, 0, 2);
        dueBlinds(t, 1, 2, 102, NONE, NONE);
        dueBlinds(t, 2, 18, 1, 102, NONE);
        t.carriage("c14;ffrl");
        t.one(0, 2, 0, 1);
        t.one(0, 3, 0, 2);
        dueBlinds(t, 1, 2, 1, NONE, NONE);
        dueBlinds(t, 2, 2, 1, 102, NONE);
        dueBlinds(t, 3, 18, 1, 102, 203);
    }

    static void p26_theLastGapOfAll(Train t) {
        t.law("s5;e1");
        t.carriage("c84;ffffffffffffffffffffffffffffffrl");
        t.one(0, 30, 0, 1);
        t.one(0, 31, 0, 2);
        dueBlinds(t, 1, 2, 3031, NONE, NONE);
        dueBlinds(t, 2, 2, 1, 3031, NONE);
        dueBlinds(t, 3, 2, 1, 4, 3031);
    }

    /** The first of the GAPS between two far SEATS is as good as any. */
    static void p26_onceIsEnough(Train t) {
        t.law("s5;e1");
        t.carriage("c14;rfll");
        t.one(0, 0, 0, 1);
        t.one(0, 3, 0, 2);
        dueBlinds(t, 1, 0, 1, NONE, NONE);
        dueBlinds(t, 2, 0, 1, 102, NONE);
        dueBlinds(t, 3, 0, 1, 102, 203);
        t.blind(0, 1, true);
        dueBlinds(t, 1, 0, 102, NONE, NONE);
    }

    static void p26_onceIsEnoughInAColumn(Train t) {
        t.law("s5;e1");
        t.carriage("c41;bfbf");
        t.one(0, 0, 0, 1);
        t.one(0, 3, 0, 2);
        dueBlinds(t, 1, 0, 1, NONE, NONE);
        dueBlinds(t, 2, 0, 1, 102, NONE);
        dueBlinds(t, 3, 0, 1, 102, 203);
        t.carriage("c42;bbllffff");
        t.one(0, 0, 0, 1);
        t.one(0, 6, 0, 2);
        t.blind(0, 1, true);
        dueBlinds(t, 3, 0, 2, 103, 203);
    }

    /** A sight past two GAPS is taken once, with a GAP of another line between these, too. */
    static void p26_onceIsEnoughAroundAnotherLine(Train t) {
        t.law("s5;e1");
        t.carriage("c32;bbfffl");
        t.one(0, 0, 0, 1);
        t.one(0, 4, 0, 2);
        t.one(0, 1, 0, 3);
        t.one(0, 3, 0, 4);
        // 0 and 4 see one another past 0 2 and 2 4; 1 and 3 past 1 3; 0 and 1 hear one another.
        due("spread(0)", t.spread(0), 5 + 5 + 5 + 5 + 1 + 1);
        dueBlinds(t, 1, 12 + 0, 2, NONE, NONE);
        dueBlinds(t, 2, 1 + 1 + 1 + 1, 2, 103, NONE);
        dueBlinds(t, 3, 1 + 1 + 1 + 1, 1, 2, 103);
        t.blind(0, 1, true);
        t.blind(2, 3, true);
        dueBlinds(t, 3, 1 + 1 + 1 + 1, 2, 103, 204);
    }

    static void p26_throughAMirror(Train t) {
        t.law("s5;e0");
        t.carriage("c31m;fff");
        t.one(0, 0, 0, 1);
        t.one(0, 2, 0, 2);
        due("spread(0)", t.spread(0), 10);
        dueBlinds(t, 1, 0, 1, NONE, NONE);
        t.move(0, 1);
        dueBlinds(t, 1, 0, 102, NONE, NONE);
        dueBlinds(t, 2, 0, 1, 102, NONE);
        // 1 sees 2 by the MIRROR ahead: past two GAPS; 2 sees 1 at once.
        t.move(1, 0);
        t.move(0, 2);
        dueBlinds(t, 1, 0, 1, NONE, NONE);
    }

    static void p26_whatIsPutStays(Train t) {
        t.law("s5;e1");
        t.carriage("c12;rl");
        t.one(0, 0, 0, 1);
        t.one(0, 1, 0, 2);
        t.blinds(0, 1, -1);
        due("no BLIND is put", t.many(4), 0);
        due("spread(0)", t.spread(0), 10);
        due("line(0, 1)", t.line(0, 1), 1);
    }

    static void p26_lessThanNow(Train t) {
        t.law("s6;e2");
        t.carriage("c22;rlrl");
        t.one(0, 0, 0, 1);
        t.one(0, 1, 0, 2);
        t.one(0, 2, 0, 3);
        t.one(0, 3, 0, 3);
        due("6 and 6, 18 and 18, 2 eight times below", t.spread(0), 6 + 6 + 18 + 18 + 2 * 4);
        dueBlinds(t, 1, 6 + 6 + 6 + 6 + 8, 203, NONE, NONE);
        dueBlinds(t, 2, 2 + 2 + 6 + 6 + 8, 1, 203, NONE);
        dueBlinds(t, 3, 24, 1, 2, 203);
    }

    // ---- promise 27

    static void p27_unknown(Train t) {
        refused("LAW -1", x -> x.parts(-1, 0, 0), UNKNOWN);
        refused("LAW 2 of 2", x -> x.parts(2, 0, 0), UNKNOWN);
        refused("the other -1", x -> x.parts(0, -1, 1), UNKNOWN);
        refused("the other 2 of 2", x -> x.parts(0, 2, 1), UNKNOWN);
    }

    static void p27_outside(Train t) {
        refused("what -1", x -> x.parts(0, 1, -1), OUTSIDE);
        refused("what 2", x -> x.parts(0, 1, 2), OUTSIDE);
    }

    static void p27_fewerThanTwo(Train t) {
        t.law("o1");
        due("without a CARRIAGE", t.parts(0, 0, 0), STATE);
        t.carriage("c12;ff");
        due("nobody", t.parts(0, 0, 0), STATE);
        t.one(0, 0, 0, 0);
        due("one", t.parts(0, 0, 1), STATE);
        t.one(0, 1, 0, 0);
        due("two", t.parts(0, 0, 0), 0);
        due("two", t.parts(0, 0, 1), 1);
    }

    static void p27_orderOfRefusals(Train t) {
        refused("LAW ahead of what", x -> x.parts(0, 2, 2), UNKNOWN);
        t.law("o1");
        due("what ahead of nobody", t.parts(0, 0, 2), OUTSIDE);
        due("LAW ahead of nobody", t.parts(0, 1, 0), UNKNOWN);
    }

    private static void dueParts(Train t, int l, int m, int whose, int whom) {
        due("parts(" + l + ", " + m + ", 0)", t.parts(l, m, 0), whose);
        due("parts(" + l + ", " + m + ", 1)", t.parts(l, m, 1), whom);
    }

    static void p27_ofSeveralTheFirst(Train t) {
        t.carriage("c14;ffff");
        t.law("s5;k2");
        t.law("s5;k9");
        t.law("s5;k2;y0");
        t.one(0, 3, 0, 1);
        t.one(0, 2, 0, 2);
        t.one(0, 1, 0, 3);
        t.one(0, 0, 0, 2);
        dueParts(t, 0, 0, 0, 1);
        dueParts(t, 0, 1, 1, 3);
        dueParts(t, 1, 0, 1, 3);
        dueParts(t, 0, 2, 0, 1);
    }

    static void p27_theMost(Train t) {
        t.carriage("c13;fff");
        t.law("s9;k9;y0");
        t.law("s9;k9;y9");
        t.one(0, 0, 0, 1);
        t.one(0, 1, 0, 2);
        t.one(1, 2, 0, 2);
        dueParts(t, 0, 1, 1, 2);
        t = new Train();
        t.carriage("c13;fff");
        t.law("s9;k9;y0");
        t.law("s9;k9;y9");
        t.one(1, 0, 0, 1);
        t.one(0, 1, 0, 2);
        t.one(0, 2, 0, 1);
        dueParts(t, 0, 1, 2, 0);
    }

    // ---- promise 28

    private static void dueFilm(Train t, int y, int x, int upper, int lower) {
        due("film(0, 1, " + y + ", " + x + ", 0)", t.film(0, 1, y, x, 0), upper);
        due("film(0, 1, " + y + ", " + x + ", 1)", t.film(0, 1, y, x, 1), lower);
        due("film(1, 0, " + y + ", " + x + ", 0)", t.film(1, 0, y, x, 0), upper);
        due("film(1, 0, " + y + ", " + x + ", 1)", t.film(1, 0, y, x, 1), lower);
    }

    private static void three(Train t, String law, String other) {
        t.carriage("c13;fff");
        t.law(law);
        t.law(other);
        t.one(0, 0, 0, 1);
        t.one(1, 1, 0, 1);
        t.one(2, 2, 0, 2);
    }

    static void p28_oddsAlike(Train t) {
        three(t, "o1;e0;f1", "o9;e9;f9");
        dueFilm(t, 0, 1, 0, 1);
        dueFilm(t, 1, 0, 0, 1);
        dueFilm(t, 2, 0, 0, 1);
    }

    static void p28_dogOfAnotherKin(Train t) {
        three(t, "s9;k9;y9", "s0");
        dueFilm(t, 0, 2, 0, 1);
        dueFilm(t, 2, 0, 9, 29);
    }

    static void p28_leastTerms(Train t) {
        three(t, "s5;k4", "s0");
        dueFilm(t, 1, 0, 1, 2);
        dueFilm(t, 2, 0, 1, 5);
        t = new Train();
        three(t, "s4;k1;y9", "s6;k1;y9");
        dueFilm(t, 1, 0, 5, 78);
        dueFilm(t, 0, 1, 5, 78);
    }

    static void p28_theGreatest(Train t) {
        three(t, "s9;k9;y9", "s0;k1;y0");
        dueFilm(t, 1, 0, 81, 101);
        dueFilm(t, 0, 1, 81, 101);
    }

    static void p28_asIfItSawThatOne(Train t) {
        three(t, "s5;e9", "s0;e9");
        dueFilm(t, 2, 0, 1, 5);
        t.blind(0, 1, true);
        dueFilm(t, 2, 0, 1, 5);
        dueFilm(t, 1, 0, 3, 7);
    }

    static void p28_lost(Train t) {
        refused("LAW -1", x -> x.film(-1, 0, 0, 1, 0), LOST);
        refused("LAW 2 of 2", x -> x.film(2, 0, 0, 1, 0), LOST);
        refused("the other -1", x -> x.film(0, -1, 0, 1, 0), LOST);
        refused("the other 2 of 2", x -> x.film(0, 2, 0, 1, 0), LOST);
        refused("y -1", x -> x.film(0, 1, -1, 1, 0), LOST);
        refused("y 3 of 3", x -> x.film(0, 1, 3, 1, 0), LOST);
        refused("y NONE", x -> x.film(0, 1, NONE, 1, 0), LOST);
        refused("x -1", x -> x.film(0, 1, 0, -1, 0), LOST);
        refused("x 3 of 3", x -> x.film(0, 1, 0, 3, 0), LOST);
    }

    static void p28_bothAreOne(Train t) {
        refused("0 shown to 0", x -> x.film(0, 1, 0, 0, 0), LOST);
        refused("2 shown to 2", x -> x.film(0, 1, 2, 2, 1), LOST);
    }

    static void p28_whichOutside(Train t) {
        refused("which -1", x -> x.film(0, 1, 0, 1, -1), LOST);
        refused("which 2", x -> x.film(0, 1, 0, 1, 2), LOST);
    }

    public static void main(String[] args) throws Exception {
        runAll(NightsBoundsRuns.class, 24, 28);
    }
}
