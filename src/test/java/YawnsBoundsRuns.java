import java.math.BigInteger;

/** Boundary cases of promises 12 to 23: YAWNS, their sources, what is said of all of them. */
public final class YawnsBoundsRuns extends Bounds {

    /** ONES 0 and 1 who see one another, of unlike KIN, each with 2 of its own by OWN 1. */
    private static void pair(Train t, String... laws) {
        t.carriage("c12;rl");
        t.one(0, 0, 8, 1);
        t.one(0, 1, 8, 2);
        for (String law : laws) {
            t.law(law);
        }
    }

    /** ONES 0 and 1 yawn by turns at minutes 0 .. 3: by LAW 0 with 2 of their own, 4 from the other, by LAW 1 of neither. */
    private static void byTurns(Train t) {
        pair(t, "o1;s4;e0;f1;t3", "o0;s0;e0");
        t.yawns(0, 0, 1, 1, 2, 0, 3, 1);
    }

    // ---- promise 12

    static void p12_unknown(Train t) {
        refused("ONE -1", x -> x.yawn(9, -1), UNKNOWN);
        refused("ONE 3 of 3", x -> x.yawn(9, 3), UNKNOWN);
        refused("ONE NONE", x -> x.yawn(9, NONE), UNKNOWN);
        refused("ONE MAX", x -> x.yawn(9, MAX), UNKNOWN);
    }

    static void p12_minuteTooSmall(Train t) {
        refused("minute -1", x -> x.yawn(-1, 0), OUTSIDE);
        refused("minute MIN", x -> x.yawn(MIN, 0), OUTSIDE);
        pair(t);
        due("minute 0", t.yawn(0, 0), 0);
    }

    static void p12_minuteTooLarge(Train t) {
        refused("minute 600", x -> x.yawn(600, 0), OUTSIDE);
        refused("minute MAX", x -> x.yawn(MAX, 0), OUTSIDE);
        pair(t);
        due("minute 599", t.yawn(599, 0), 0);
        due("minute 599 again", t.yawn(599, 1), 1);
    }

    static void p12_aheadOfTheOneBefore(Train t) {
        refused("minute 6 behind 7", x -> x.yawn(6, 0), STATE);
        refused("minute 0 behind 7", x -> x.yawn(0, 1), STATE);
        pair(t);
        t.yawns(3, 0, 9, 0);
        due("behind the first, ahead of the second", t.yawn(5, 0), STATE);
        due("the same minute", t.yawn(9, 1), 2);
        due("the same minute and one", t.yawn(9, 1), 3);
        due("a minute more", t.yawn(10, 1), 4);
    }

    static void p12_full(Train t) {
        pair(t);
        for (int j = 0; j < 24; j++) {
            due("yawn", t.yawn(j, j % 2), j);
        }
        due("a 25th", t.yawn(24, 0), FULL);
        due("many(3)", t.many(3), 24);
        due("the 24th stays", t.ofYawn(23, 0), 23);
        t.back(1);
        due("a 24th again", t.yawn(30, 0), 23);
        due("full again", t.yawn(30, 0), FULL);
        refusedIn(Bounds::fullScene, "a 25th", x -> x.yawn(5, 0), FULL, 3);
    }

    static void p12_orderOfRefusals(Train t) {
        refused("ONE ahead of minute", x -> x.yawn(600, 3), UNKNOWN);
        refused("minute -1 is ahead, too", x -> x.yawn(-1, 0), OUTSIDE);
        refusedIn(Bounds::fullScene, "ONE ahead of FULL", x -> x.yawn(5, 12), UNKNOWN, 3);
        refusedIn(Bounds::fullScene, "minute ahead of FULL", x -> x.yawn(600, 0), OUTSIDE, 3);
        refusedIn(Bounds::fullScene, "ahead of the one before ahead of FULL", x -> x.yawn(4, 0), STATE, 3);
    }

    // ---- promise 13

    static void p13_unknown(Train t) {
        refused("YAWN -1", x -> x.ofYawn(-1, 0), UNKNOWN);
        refused("YAWN 3 of 3", x -> x.ofYawn(3, 0), UNKNOWN);
        refused("YAWN NONE", x -> x.ofYawn(NONE, 0), UNKNOWN);
        refused("YAWN MAX", x -> x.ofYawn(MAX, 1), UNKNOWN);
        fullScene(t);
        due("YAWN 23 of 24", t.ofYawn(23, 0), 5);
        due("YAWN 24 of 24", t.ofYawn(24, 0), UNKNOWN);
    }

    static void p13_outside(Train t) {
        refused("what -1", x -> x.ofYawn(0, -1), OUTSIDE);
        refused("what 2", x -> x.ofYawn(0, 2), OUTSIDE);
        refused("what MAX", x -> x.ofYawn(2, MAX), OUTSIDE);
    }

    static void p13_orderOfRefusals(Train t) {
        refused("YAWN ahead of what", x -> x.ofYawn(3, 2), UNKNOWN);
    }

    static void p13_eachNumber(Train t) {
        scene(t);
        int[][] told = {{2, 0}, {3, 1}, {7, 2}};
        for (int j = 0; j < 3; j++) {
            due("minute", t.ofYawn(j, 0), told[j][0]);
            due("who", t.ofYawn(j, 1), told[j][1]);
        }
    }

    // ---- promise 14

    static void p14_outside(Train t) {
        refused("-1", x -> x.back(-1), OUTSIDE);
        refused("4 of 3", x -> x.back(4), OUTSIDE);
        refused("MIN", x -> x.back(MIN), OUTSIDE);
        refused("MAX", x -> x.back(MAX), OUTSIDE);
    }

    static void p14_noneIsTakenBack(Train t) {
        scene(t);
        due("none of 3", t.back(0), 3);
        due("many(3)", t.many(3), 3);
        due("all of 3", t.back(3), 0);
        due("none of 0", t.back(0), 0);
        due("one of 0", t.back(1), OUTSIDE);
    }

    static void p14_asManyAsThereAre(Train t) {
        fullScene(t);
        due("25 of 24", t.back(25), OUTSIDE);
        due("23 of 24", t.back(23), 1);
        due("2 of 1", t.back(2), OUTSIDE);
        due("1 of 1", t.back(1), 0);
        due("ofYawn(0, 0)", t.ofYawn(0, 0), UNKNOWN);
    }

    static void p14_theLastOnes(Train t) {
        scene(t);
        due("two of 3", t.back(2), 1);
        due("the first stays", t.ofYawn(0, 0), 2);
        due("the second is gone", t.ofYawn(1, 0), UNKNOWN);
        due("ahead of the one left", t.yawn(1, 0), STATE);
        due("the minute of the one left", t.yawn(2, 2), 1);
        due("who", t.ofYawn(1, 1), 2);
        t.back(2);
        due("minute 0, with none ahead", t.yawn(0, 0), 0);
    }

    // ---- promise 15

    static void p15_unknown(Train t) {
        refused("LAW -1", x -> x.could(-1, 0), UNKNOWN);
        refused("LAW 2 of 2", x -> x.could(2, 0), UNKNOWN);
        refused("YAWN -1", x -> x.could(0, -1), UNKNOWN);
        refused("YAWN 3 of 3", x -> x.could(0, 3), UNKNOWN);
        refused("YAWN NONE", x -> x.could(0, NONE), UNKNOWN);
        refused("YAWN 24", x -> x.could(0, 24), UNKNOWN);
    }

    static void p15_fromTillMinutesAhead(Train t) {
        pair(t, "f3;t5", "f1;t1", "f9;t9");
        t.yawns(100, 0, 101, 1, 102, 1, 103, 1, 105, 1, 106, 1, 109, 1, 110, 1);
        int[][] sets = {{0, 0, 0, 1, 1, 0, 0, 0}, {0, 1, 0, 0, 0, 0, 0, 0}, {0, 0, 0, 0, 0, 0, 1, 0}};
        for (int l = 0; l < 3; l++) {
            for (int j = 0; j < 8; j++) {
                due("could(" + l + ", " + j + ")", t.could(l, j), sets[l][j]);
            }
        }
    }

    static void p15_notOfThisMinute(Train t) {
        pair(t, "f1;t9");
        t.yawns(5, 0, 5, 1, 5, 0);
        for (int j = 0; j < 3; j++) {
            due("could(0, " + j + ")", t.could(0, j), 0);
        }
    }

    static void p15_notFromItself(Train t) {
        t.carriage("c11m;f");
        t.one(0, 0, 0, 0);
        t.law("o9;s9");
        t.yawns(1, 0, 2, 0);
        due("of the same one, by a MIRROR", t.could(0, 1), 0);
        due("of its own", t.share(0, 1, NONE, 0), 1);
    }

    static void p15_notByAMightOf0(Train t) {
        pair(t, "s0;e9", "s1;e0", "s9;y0");
        t.yawns(1, 0, 2, 1);
        due("SIGHT 0", t.could(0, 1), 0);
        due("SIGHT 1", t.could(1, 1), 1);
        t.carriage("c12;rl");
        t.one(1, 0, 0, 1);
        t.one(0, 1, 0, 2);
        t.yawns(1, 0, 2, 1, 3, 0);
        due("of a CHILD", t.could(2, 2), 0);
        due("from a CHILD", t.could(2, 1), 1);
    }

    static void p15_notFromOneBehind(Train t) {
        pair(t, "f1;t9");
        t.yawns(5, 0, 6, 1);
        due("could(0, 0)", t.could(0, 0), 0);
        due("could(0, 1)", t.could(0, 1), 1);
    }

    static void p15_itsOwnIsNoYawn(Train t) {
        pair(t, "o9;s0;e0");
        t.yawns(5, 0, 6, 1);
        due("of its own alone", t.could(0, 1), 0);
    }

    static void p15_allOf24(Train t) {
        pair(t, "f1;t1");
        for (int j = 0; j < 23; j++) {
            t.yawn(0, 0);
        }
        t.yawn(1, 1);
        due("bits 0 .. 22", t.could(0, 23), (1 << 23) - 1);
    }

    static void p15_byWhereTheySitNow(Train t) {
        t.carriage("c13;rlf");
        t.one(0, 0, 8, 1);
        t.one(0, 1, 8, 2);
        t.law("e0");
        t.yawns(1, 0, 2, 1);
        due("they see one another", t.could(0, 1), 1);
        t.move(1, 2);
        due("SEAT 2 faces away", t.could(0, 1), 0);
        t.move(1, 1);
        t.blind(0, 1, true);
        due("a BLIND between", t.could(0, 1), 0);
    }

    // ---- promise 16

    private static void dueShare(Train t, int j, int i, int upper, int lower) {
        due("share(0, " + j + ", " + i + ", 0)", t.share(0, j, i, 0), upper);
        due("share(0, " + j + ", " + i + ", 1)", t.share(0, j, i, 1), lower);
    }

    static void p16_leastTerms(Train t) {
        byTurns(t);
        dueShare(t, 1, 0, 2, 3);
        dueShare(t, 1, NONE, 1, 3);
        dueShare(t, 3, 0, 2, 5);
        dueShare(t, 3, 2, 2, 5);
        dueShare(t, 3, NONE, 1, 5);
    }

    static void p16_theOnlySource(Train t) {
        byTurns(t);
        dueShare(t, 0, NONE, 1, 1);
        t = new Train();
        pair(t, "o0");
        t.yawns(1, 0, 2, 1);
        dueShare(t, 1, 0, 1, 1);
        due("LAW 0, its own", t.share(0, 1, NONE, 0), 0);
    }

    static void p16_itsOwnIsNoSource(Train t) {
        pair(t, "o0");
        t.yawns(1, 0, 2, 1);
        dueShare(t, 1, NONE, 0, 1);
    }

    static void p16_noSource(Train t) {
        byTurns(t);
        dueShare(t, 2, 0, 0, 1);
        dueShare(t, 3, 1, 0, 1);
        t.yawn(9, 0);
        dueShare(t, 4, 3, 0, 1);
    }

    static void p16_aYawnBehindIt(Train t) {
        byTurns(t);
        dueShare(t, 0, 1, 0, 1);
        dueShare(t, 0, 3, 0, 1);
        dueShare(t, 1, 2, 0, 1);
    }

    static void p16_itself(Train t) {
        byTurns(t);
        dueShare(t, 0, 0, 0, 1);
        dueShare(t, 3, 3, 0, 1);
    }

    static void p16_sharesOfOneAreAll(Train t) {
        pair(t, "o1;s5;f1;t9");
        t.yawns(1, 0, 1, 0, 2, 0, 3, 1);
        dueShare(t, 3, 0, 5, 17);
        dueShare(t, 3, 1, 5, 17);
        dueShare(t, 3, 2, 5, 17);
        dueShare(t, 3, NONE, 2, 17);
    }

    static void p16_mightsOf1(Train t) {
        t.carriage("c12;rl");
        t.one(0, 0, 9, 1);
        t.one(0, 1, 9, 2);
        t.law("o1;s1");
        t.yawns(1, 0, 2, 1);
        dueShare(t, 0, NONE, 1, 1);
        dueShare(t, 1, 0, 1, 2);
        dueShare(t, 1, NONE, 1, 2);
    }

    static void p16_unknown(Train t) {
        refused("LAW -1", x -> x.share(-1, 0, 0, 0), LOST);
        refused("LAW 2 of 2", x -> x.share(2, 0, 0, 0), LOST);
        refused("j -1", x -> x.share(0, -1, 0, 0), LOST);
        refused("j 3 of 3", x -> x.share(0, 3, 0, 0), LOST);
        refused("j NONE", x -> x.share(0, NONE, 0, 0), LOST);
        refused("i -1", x -> x.share(0, 0, -1, 0), LOST);
        refused("i 3 of 3", x -> x.share(0, 0, 3, 0), LOST);
        refused("i beside NONE", x -> x.share(0, 0, NONE - 1, 0), LOST);
        refused("i beside NONE", x -> x.share(0, 0, NONE + 1, 0), LOST);
    }

    static void p16_outside(Train t) {
        refused("which -1", x -> x.share(0, 0, NONE, -1), LOST);
        refused("which 2", x -> x.share(0, 0, NONE, 2), LOST);
        refused("which MAX", x -> x.share(0, 0, 0, MAX), LOST);
    }

    static void p16_noSourceAtAll(Train t) {
        refused("from another", x -> x.share(1, 1, 0, 0), LOST);
        refused("of its own", x -> x.share(1, 0, NONE, 0), LOST);
        refused("the lower number, too", x -> x.share(1, 2, 1, 1), LOST);
    }

    static void p16_byWhereTheySitNow(Train t) {
        byTurns(t);
        t.blind(0, 1, true);
        dueShare(t, 1, 0, 0, 1);
        dueShare(t, 1, NONE, 1, 1);
    }

    // ---- promise 17

    static void p17_unknown(Train t) {
        refused("LAW -1", x -> x.barred(-1), UNKNOWN);
        refused("LAW 2 of 2", x -> x.barred(2), UNKNOWN);
        refused("LAW MIN", x -> x.barred(MIN), UNKNOWN);
    }

    static void p17_none(Train t) {
        byTurns(t);
        due("each has a source", t.barred(0), NONE);
        t.back(4);
        due("without YAWNS", t.barred(1), NONE);
    }

    static void p17_theFirst(Train t) {
        byTurns(t);
        due("all have none", t.barred(1), 0);
        t = new Train();
        pair(t, "o0;f1;t2");
        t.yawns(1, 0, 2, 1, 5, 0, 6, 0);
        due("the first of all", t.barred(0), 0);
        t = new Train();
        t.carriage("c12;rl");
        t.one(0, 0, 0, 0);
        t.one(1, 1, 9, 1);
        t.law("o1;s9;y3;t2");
        t.yawns(1, 0, 3, 1, 6, 1, 7, 1);
        due("the third: none is 1 or 2 minutes ahead", t.barred(0), 2);
        t.yawn(8, 0);
        due("a source behind it is none", t.barred(0), 2);
    }

    static void p17_theLast(Train t) {
        pair(t, "o1;s4;t1");
        for (int j = 0; j < 23; j++) {
            t.yawn(j, 0);
        }
        t.yawn(30, 1);
        due("of its own", t.barred(0), NONE);
        t = new Train();
        t.carriage("c12;rl");
        t.one(0, 0, 0, 0);
        t.one(1, 1, 9, 1);
        t.law("y1");
        for (int j = 0; j < 23; j++) {
            t.yawn(j, 0);
        }
        t.yawn(30, 1);
        due("YAWN 23", t.barred(0), 23);
    }

    static void p17_mightsOf1(Train t) {
        t.carriage("c12;rl");
        t.one(0, 0, 9, 1);
        t.one(1, 1, 9, 1);
        t.law("o1;s3;k1;y3");
        t.yawns(1, 0);
        due("1 of its own", t.barred(0), NONE);
        t.yawns(2, 1);
        due("1 from the other", t.barred(0), NONE);
        due("no MIGHT of its own", t.share(0, 1, NONE, 0), 0);
        due("trees(0)", t.trees(0), 1);
        due("chain(0)", t.chain(0), 2);
        due("missed(0, 0)", t.missed(0, 0), STATE);
    }

    static void p17_byWhereTheySitNow(Train t) {
        t.carriage("c13;rlf");
        t.one(0, 0, 0, 0);
        t.one(1, 1, 9, 1);
        t.law("e0;y3;s6");
        t.yawns(1, 0, 2, 1);
        due("it sees it", t.barred(0), NONE);
        t.move(1, 2);
        due("it doesn't", t.barred(0), 1);
    }

    // ---- promise 18

    static void p18_unknown(Train t) {
        refused("LAW -1", x -> x.trees(-1), UNKNOWN);
        refused("LAW 2 of 2", x -> x.trees(2), UNKNOWN);
    }

    static void p18_withoutYawns(Train t) {
        byTurns(t);
        t.back(4);
        due("by LAW 0", t.trees(0), 1);
        due("by LAW 1", t.trees(1), 1);
    }

    static void p18_oneHasNone(Train t) {
        t.carriage("c12;rl");
        t.one(0, 0, 0, 0);
        t.one(1, 1, 9, 1);
        t.law("y1");
        t.yawns(1, 0, 2, 1, 3, 0);
        due("of a CHILD, its MIGHT is 0", t.trees(0), 0);
        t.law("y9");
        due("by another LAW", t.trees(1), 1 * 2 * 2);
    }

    static void p18_byWhereTheySitNow(Train t) {
        byTurns(t);
        t.blind(0, 1, true);
        due("their own alone", t.trees(0), 1);
        t.blind(0, 1, false);
        due("1, 2, 2, 3", t.trees(0), 12);
    }

    static void p18_ownAndYawnsAreCounted(Train t) {
        byTurns(t);
        due("1, 2, 2, 3", t.trees(0), 12);
        t = new Train();
        pair(t, "o0;t9");
        t.yawns(1, 0, 2, 1);
        due("none of its own", t.trees(0), 0);
        t = new Train();
        pair(t, "o1;s0;e0");
        t.yawns(1, 0, 2, 1, 3, 0);
        due("their own alone", t.trees(0), 1);
    }

    /** Beyond int: 13 to the 12th. */
    static void p18_thirteenToTheTwelfth(Train t) {
        pair(t, "o1;t1");
        for (int j = 0; j < 24; j++) {
            t.yawn(j / 12, j / 12);
        }
        due("trees(0)", t.trees(0), BigInteger.valueOf(13).pow(12).mod(BigInteger.valueOf(1000000007)).intValue());
    }

    /** Beyond long: 8 who all see one another, by turns; 1, 2, .. 8 sources, then 8, then 9 of each. */
    static void p18_moduloBeyondLong(Train t) {
        t.carriage("c81m;ffffffff");
        for (int x = 0; x < 8; x++) {
            t.one(0, x, 9, x);
        }
        t.law("o1;s1;t9");
        for (int j = 0; j < 24; j++) {
            t.yawn(j, j % 8);
        }
        BigInteger all = BigInteger.valueOf(9).pow(15).multiply(BigInteger.valueOf(40320 * 8));
        due("beyond long", all.bitLength() > 63 ? 1 : 0, 1);
        due("trees(0)", t.trees(0), all.mod(BigInteger.valueOf(1000000007)).intValue());
    }

    // ---- promise 19

    static void p19_unknown(Train t) {
        refused("LAW -1", x -> x.causes(-1, 0), UNKNOWN);
        refused("LAW 2 of 2", x -> x.causes(2, 0), UNKNOWN);
        refused("ONE -1", x -> x.causes(0, -1), UNKNOWN);
        refused("ONE 3 of 3", x -> x.causes(0, 3), UNKNOWN);
        refused("ONE NONE", x -> x.causes(0, NONE), UNKNOWN);
    }

    static void p19_someYawnHasNoSource(Train t) {
        refused("LAW 1", x -> x.causes(1, 0), STATE);
        refused("one who isn't in it", x -> x.causes(1, 2), STATE);
        t.carriage("c12;rl");
        t.one(0, 0, 0, 0);
        t.one(1, 1, 9, 1);
        t.law("y3;s9");
        t.yawns(1, 0, 2, 1);
        due("ahead of it", t.causes(0, 0), 1000000);
        t.yawn(20, 1);
        due("the last has none", t.causes(0, 0), STATE);
    }

    static void p19_theFirstYawnHasNoSource(Train t) {
        t.carriage("c12;rl");
        t.one(1, 0, 9, 1);
        t.one(0, 1, 9, 1);
        t.law("y3;s9");
        t.yawns(1, 0, 2, 1);
        due("barred(0)", t.barred(0), 0);
        due("causes(0, 0)", t.causes(0, 0), STATE);
        due("most(0)", t.most(0), STATE);
        due("goesOn(0)", t.goesOn(0), STATE);
    }

    static void p19_orderOfRefusals(Train t) {
        refused("ONE ahead of no source", x -> x.causes(1, 3), UNKNOWN);
        refused("LAW ahead of all", x -> x.causes(2, 3), UNKNOWN);
    }

    static void p19_withoutYawns(Train t) {
        byTurns(t);
        t.back(4);
        due("causes(0, 0)", t.causes(0, 0), 0);
        due("none has no source", t.causes(1, 1), 0);
    }

    /** Three thirds, each cut: a millionth less than all. */
    static void p19_eachShareIsCut(Train t) {
        pair(t, "o1;s1;t3");
        t.yawns(0, 0, 1, 1, 2, 1, 3, 1);
        due("share", t.share(0, 1, 0, 1), 3);
        due("three of 333333", t.causes(0, 0), 999999);
        due("two thirds of its own are none of it", t.causes(0, 1), 0);
    }

    static void p19_eachShareIsCutOfOneYawn(Train t) {
        pair(t, "o1;s5;t9");
        t.yawns(1, 0, 1, 0, 2, 0, 3, 1);
        due("three of 5 by 17", t.causes(0, 0), 3 * 294117);
    }

    static void p19_byWhereTheySitNow(Train t) {
        byTurns(t);
        due("causes(0, 0)", t.causes(0, 0), 666666 + 400000 + 400000);
        due("causes(0, 1)", t.causes(0, 1), 666666);
        t.blind(0, 1, true);
        due("behind a BLIND", t.causes(0, 0), 0);
    }

    static void p19_twentyFourOfOne(Train t) {
        t.carriage("c12;rl");
        t.one(0, 0, 9, 1);
        t.one(1, 1, 9, 1);
        t.law("y3;s9;t1");
        t.yawn(0, 0);
        for (int j = 1; j < 24; j++) {
            t.yawn(1, 1);
        }
        due("23 millions", t.causes(0, 0), 23000000);
        due("most(0)", t.most(0), 0);
        due("goesOn(0)", t.goesOn(0), 1);
    }

    // ---- promise 20

    static void p20_unknown(Train t) {
        refused("LAW -1", x -> x.most(-1), UNKNOWN);
        refused("LAW 2 of 2", x -> x.most(2), UNKNOWN);
    }

    static void p20_someYawnHasNoSource(Train t) {
        refused("LAW 1", x -> x.most(1), STATE);
    }

    static void p20_nobody(Train t) {
        t.law("o1");
        due("without a CARRIAGE", t.most(0), NONE);
        t.carriage("c12;rl");
        due("in an empty one", t.most(0), NONE);
        t.one(0, 1, 0, 0);
        due("one alone", t.most(0), 0);
    }

    static void p20_ofSeveralTheLeast(Train t) {
        pair(t, "o1;s4");
        due("none yawned", t.most(0), 0);
        t.yawns(1, 0, 1, 1);
        due("none caught it", t.most(0), 0);
        t.yawns(2, 0, 2, 1);
        due("each caused as much", t.causes(0, 0), t.causes(0, 1));
        due("the least number", t.most(0), 0);
    }

    static void p20_notTheFirst(Train t) {
        t.carriage("c13;rrl");
        t.one(0, 0, 9, 1);
        t.one(0, 1, 9, 2);
        t.one(0, 2, 9, 3);
        t.law("o1;s4;e0");
        t.yawns(1, 2, 2, 1);
        due("the last", t.most(0), 2);
        // 2 has it from 1 with 4 by 5; 0 from 1 and from 2 with 4 by 9 each.
        t.yawns(3, 2, 3, 0);
        due("causes(0, 1)", t.causes(0, 1), 800000 + 444444);
        due("causes(0, 2)", t.causes(0, 2), 800000 + 444444);
        due("the least of two that are not the first", t.most(0), 1);
        t.yawn(5, 0);
        due("the last again", t.most(0), 2);
    }

    static void p20_byWhereTheySitNow(Train t) {
        t.carriage("c13;rlf");
        t.one(0, 0, 9, 1);
        t.one(0, 1, 9, 2);
        t.law("o1;s4;e0");
        t.yawns(1, 1, 2, 0);
        due("ONE 1", t.most(0), 1);
        t.blind(0, 1, true);
        due("none caught it", t.most(0), 0);
    }

    // ---- promise 21

    static void p21_unknown(Train t) {
        refused("LAW -1", x -> x.goesOn(-1), UNKNOWN);
        refused("LAW 2 of 2", x -> x.goesOn(2), UNKNOWN);
    }

    static void p21_someYawnHasNoSource(Train t) {
        refused("LAW 1", x -> x.goesOn(1), STATE);
    }

    static void p21_withoutYawns(Train t) {
        byTurns(t);
        t.back(4);
        due("by LAW 0", t.goesOn(0), 0);
        due("by LAW 1", t.goesOn(1), 0);
        t.carriage("c11;f");
        due("nobody", t.goesOn(0), 0);
    }

    /** A CHILD whose own MIGHT is 0 has it from ONE 0 alone: a million each time. */
    private static void childWatches(Train t) {
        t.carriage("c12;rl");
        t.one(0, 0, 9, 1);
        t.one(1, 1, 9, 1);
        t.law("o1;y3;s9;t5");
    }

    static void p21_aMillionIsNotMore(Train t) {
        childWatches(t);
        t.yawns(0, 0, 1, 1);
        due("causes(0, 0)", t.causes(0, 0), 1000000);
        due("goesOn(0)", t.goesOn(0), 0);
        t.yawn(2, 1);
        due("causes(0, 0)", t.causes(0, 0), 2000000);
        due("goesOn(0)", t.goesOn(0), 1);
    }

    static void p21_timesHowOftenItYawned(Train t) {
        childWatches(t);
        t.yawns(0, 0, 0, 0, 1, 1, 2, 1);
        due("causes(0, 0)", t.causes(0, 0), 2000000);
        due("two millions of two", t.goesOn(0), 0);
        t.yawn(3, 1);
        due("three of two", t.goesOn(0), 1);
    }

    static void p21_aLittleMoreThanAMillion(Train t) {
        t.carriage("c13;rrl");
        t.one(0, 2, 9, 1);
        t.one(1, 1, 9, 1);
        t.one(0, 0, 0, 2);
        t.law("o9;s1;k9;y1;e0;t1");
        t.yawns(0, 0, 1, 1);
        due("a CHILD's own: 9 times 1 by 9; from 0: 9 times 1 by 9", t.causes(0, 0), 500000);
        t.yawn(1, 1);
        due("goesOn(0)", t.goesOn(0), 0);
        t.yawn(1, 2);
        due("1 by 91 more", t.causes(0, 0), 1000000 + 10989);
        due("goesOn(0)", t.goesOn(0), 1);
    }

    /** Not of the first one alone. */
    static void p21_somebody(Train t) {
        t.carriage("c12;rl");
        t.one(1, 0, 9, 1);
        t.one(0, 1, 9, 1);
        t.law("o1;y3;s9;t5");
        t.yawns(0, 1, 1, 0, 2, 0);
        due("causes(0, 0)", t.causes(0, 0), 0);
        due("causes(0, 1)", t.causes(0, 1), 2000000);
        due("goesOn(0)", t.goesOn(0), 1);
    }

    static void p21_byWhereTheySitNow(Train t) {
        t.carriage("c13;rlf");
        t.one(0, 0, 9, 1);
        t.one(0, 1, 9, 1);
        t.law("o1;s9;k9;e0");
        t.yawns(0, 0, 1, 1, 1, 1);
        due("81 by 82 twice", t.goesOn(0), 1);
        t.move(1, 2);
        due("it sees it no more", t.goesOn(0), 0);
    }

    // ---- promise 22

    static void p22_unknown(Train t) {
        refused("LAW -1", x -> x.chain(-1), UNKNOWN);
        refused("LAW 2 of 2", x -> x.chain(2), UNKNOWN);
    }

    static void p22_withoutYawns(Train t) {
        byTurns(t);
        t.back(4);
        due("chain(0)", t.chain(0), 0);
    }

    static void p22_oneIfThereAreYawns(Train t) {
        byTurns(t);
        due("by LAW 1, which bars all", t.chain(1), 1);
        t.back(3);
        due("one YAWN", t.chain(0), 1);
    }

    static void p22_allOf24(Train t) {
        pair(t, "t1");
        for (int j = 0; j < 24; j++) {
            t.yawn(j, j % 2);
        }
        due("chain(0)", t.chain(0), 24);
    }

    static void p22_theMost(Train t) {
        pair(t, "o0;t1");
        t.yawns(0, 0, 1, 1, 2, 0, 9, 1, 10, 0, 20, 0);
        due("three at the beginning", t.chain(0), 3);
        t = new Train();
        pair(t, "o0;f2;t3");
        t.yawns(0, 0, 1, 1, 2, 1, 3, 1, 4, 0);
        due("0, 2, 4 with others between", t.chain(0), 3);
    }

    static void p22_byWhereTheySitNow(Train t) {
        byTurns(t);
        due("chain(0)", t.chain(0), 4);
        t.blind(0, 1, true);
        due("behind a BLIND", t.chain(0), 1);
    }

    // ---- promise 23

    private static void dueMissed(String law, int[] yawns, int number, int minute, int who) {
        Train t = new Train();
        pair(t, law);
        t.yawns(yawns);
        due("missed(0, 0) by " + law, t.missed(0, 0), number);
        due("missed(0, 1) by " + law, t.missed(0, 1), minute);
        due("missed(0, 2) by " + law, t.missed(0, 2), who);
        due("it isn't told", t.many(3), yawns.length / 2);
    }

    static void p23_unknown(Train t) {
        refused("LAW -1", x -> x.missed(-1, 0), UNKNOWN);
        refused("LAW 2 of 2", x -> x.missed(2, 0), UNKNOWN);
    }

    static void p23_outside(Train t) {
        refused("what -1", x -> x.missed(1, -1), OUTSIDE);
        refused("what 3", x -> x.missed(1, 3), OUTSIDE);
        refused("what MIN", x -> x.missed(1, MIN), OUTSIDE);
    }

    static void p23_notBarred(Train t) {
        for (int what = 0; what < 3; what++) {
            int asked = what;
            refused("what " + what, x -> x.missed(0, asked), STATE);
        }
        byTurns(t);
        t.back(4);
        due("without YAWNS", t.missed(1, 0), STATE);
    }

    static void p23_orderOfRefusals(Train t) {
        refused("LAW ahead of what", x -> x.missed(2, 3), UNKNOWN);
        refused("what ahead of not BARRED", x -> x.missed(0, 3), OUTSIDE);
    }

    static void p23_none(Train t) {
        dueMissed("o0;s0;e0", new int[] {5, 0}, 0, NONE, NONE);
        dueMissed("o0;f9", new int[] {8, 0}, 0, NONE, NONE);
    }

    static void p23_fromTillMinutesAhead(Train t) {
        dueMissed("o0;f2;t3", new int[] {5, 0}, 2, 2, 1);
        dueMissed("o0;f1;t9", new int[] {20, 1}, 9, 11, 0);
        dueMissed("o0;f9;t9", new int[] {599, 1}, 1, 590, 0);
    }

    /** No minute below 0. */
    static void p23_fromMinute0On(Train t) {
        dueMissed("o0;f2;t3", new int[] {2, 0}, 1, 0, 1);
        dueMissed("o0;f1;t9", new int[] {3, 1}, 3, 0, 0);
        dueMissed("o0;f1;t9", new int[] {1, 1}, 1, 0, 0);
        dueMissed("o0;f1;t9", new int[] {0, 1}, 0, NONE, NONE);
    }

    static void p23_allThatHaveNone(Train t) {
        dueMissed("o0;f2;t3", new int[] {5, 0, 6, 0}, 1, 3, 1);
        dueMissed("o0;f2;t3", new int[] {5, 0, 7, 0}, 0, NONE, NONE);
        dueMissed("o0;f2;t3", new int[] {5, 0, 5, 0}, 2, 2, 1);
        dueMissed("o0;f2;t3", new int[] {5, 0, 5, 1}, 0, NONE, NONE);
    }

    /** Those that have a source need none more; nor does the one missed. */
    static void p23_othersKeepTheirSources(Train t) {
        dueMissed("o0;f2;t3", new int[] {5, 0, 8, 1}, 2, 2, 1);
        dueMissed("o0;f2;t3", new int[] {5, 0, 7, 1, 9, 0}, 2, 2, 1);
        t.carriage("c13;rlf");
        t.one(0, 0, 0, 1);
        t.one(1, 1, 9, 1);
        t.law("o1;y1;s9;e0;t1");
        t.yawns(3, 0, 9, 1);
        due("the first has it of its own", t.missed(0, 0), 1);
        due("minute", t.missed(0, 1), 8);
        due("who", t.missed(0, 2), 0);
    }

    static void p23_firstByMinutesThenByOnes(Train t) {
        t.carriage("c14;rlll");
        t.one(0, 3, 9, 3);
        t.one(0, 2, 9, 2);
        t.one(0, 0, 9, 1);
        t.law("o0;s1;e0;f2;t4");
        t.yawn(9, 2);
        due("3 minutes of two", t.missed(0, 0), 6);
        due("the first minute", t.missed(0, 1), 5);
        due("the least number", t.missed(0, 2), 0);
        t.move(0, 1);
        t.move(1, 3);
        due("wherever they sit", t.missed(0, 2), 0);
    }

    static void p23_notOfItself(Train t) {
        t.carriage("c11m;f");
        t.one(0, 0, 0, 0);
        t.law("o0;s9");
        t.yawn(9, 0);
        due("nobody else is there", t.missed(0, 0), 0);
        due("nobody else is there", t.missed(0, 1), NONE);
    }

    static void p23_oneMoreThan24(Train t) {
        pair(t, "o0;t1");
        for (int j = 0; j < 24; j++) {
            t.yawn(7, 0);
        }
        due("missed(0, 0)", t.missed(0, 0), 1);
        due("missed(0, 1)", t.missed(0, 1), 6);
        due("missed(0, 2)", t.missed(0, 2), 1);
        due("many(3)", t.many(3), 24);
    }

    static void p23_ofNobodyOfTheCarriageAhead(Train t) {
        t.carriage("c13;rrl");
        t.law("o0;s9;t1");
        for (int c = 0; c < 3; c++) {
            t.one(0, c, 0, 0);
        }
        t.yawn(7, 0);
        due("of two", t.missed(0, 0), 2);
        t.carriage("c13;rrl");
        t.one(0, 0, 0, 0);
        t.yawn(7, 0);
        due("of nobody", t.missed(0, 0), 0);
        t.one(0, 2, 0, 0);
        due("of one", t.missed(0, 0), 1);
    }

    static void p23_byWhereTheySitNow(Train t) {
        pair(t, "o0;e0;t1");
        t.yawn(7, 0);
        due("it sees one", t.missed(0, 0), 1);
        t.blind(0, 1, true);
        due("behind a BLIND", t.missed(0, 0), 0);
    }

    public static void main(String[] args) throws Exception {
        runAll(YawnsBoundsRuns.class, 12, 23);
    }
}
