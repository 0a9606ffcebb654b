import java.math.BigInteger;

/** Boundary cases of promises 29 to 39: SHEETS, TELLING, WOKEN, kinds, TRACE, FAULTS, counts. */
public final class SheetsBoundsRuns extends Bounds {

    // ---- promise 29

    static void p29_unknown(Train t) {
        faulted("SHEET -1", x -> x.sheet(-1, 0, 1), UNKNOWN, 0);
        faulted("SHEET 4", x -> x.sheet(4, 0, 1), UNKNOWN, 0);
        faulted("SHEET MIN", x -> x.sheet(MIN, 0, 1), UNKNOWN, 0);
        due("SHEET 0", t.sheet(0, 0, 1), 1);
        due("SHEET 3", t.sheet(3, 0, 1), 1);
    }

    static void p29_laneOutside(Train t) {
        faulted("LANE -1", x -> x.sheet(0, -1, 1), OUTSIDE, 0);
        faulted("LANE 3", x -> x.sheet(0, 3, 1), OUTSIDE, 0);
        faulted("LANE MAX", x -> x.sheet(3, MAX, 1), OUTSIDE, 0);
    }

    static void p29_above60(Train t) {
        faulted("61", x -> x.sheet(0, 0, 61), OUTSIDE, 0);
        faulted("MAX", x -> x.sheet(3, 2, MAX), OUTSIDE, 0);
        for (int lane = 0; lane < 3; lane++) {
            due("60 of LANE " + lane, t.sheet(lane, lane, 60), 1);
            due("the last cell", t.cell(lane, 59, lane), 0);
            due("none behind it", t.cell(lane, 60, lane), LOST);
        }
    }

    static void p29_sizeBelow0(Train t) {
        faulted("-1", x -> x.sheet(0, 0, -1), SIZE, 4);
        faulted("MIN", x -> x.sheet(3, 2, MIN), SIZE, 4);
    }

    static void p29_orderOfRefusals(Train t) {
        faulted("SHEET ahead of LANE", x -> x.sheet(4, 3, 1), UNKNOWN, 0);
        faulted("SHEET ahead of above 60", x -> x.sheet(4, 0, 61), UNKNOWN, 0);
        faulted("SHEET ahead of SIZE", x -> x.sheet(4, 0, -1), UNKNOWN, 0);
        faulted("LANE ahead of SIZE", x -> x.sheet(0, 3, -1), OUTSIDE, 0);
    }

    static void p29_noCells(Train t) {
        due("a row of none", t.sheet(1, 2, 0), 1);
        due("fault()", t.fault(), 0);
        due("cell 0", t.cell(1, 0, 2), LOST);
        due("fault()", t.fault(), 3);
        due("it is of its LANE", t.cell(1, 0, 1), LOST);
        due("fault()", t.fault(), 2);
        due("it is something", t.lose(1), 1);
    }

    static void p29_zeroAtFirst(Train t) {
        t.fill(0, 2, 7, 8, 9);
        due("anew", t.sheet(0, 2, 3), 1);
        for (int i = 0; i < 3; i++) {
            due("cell " + i, t.cell(0, i, 2), 0);
        }
        t.fill(0, 2, 7, 8, 9);
        t.lose(0);
        t.sheet(0, 2, 3);
        due("behind lose()", t.cell(0, 2, 2), 0);
        t.fill(0, 2, 7, 8, 9);
        t.sheet(0, 2, 1);
        t.sheet(0, 2, 3);
        due("behind a shorter one", t.cell(0, 2, 2), 0);
    }

    static void p29_anotherLane(Train t) {
        t.sheet(0, 0, 2);
        due("ints", t.sheet(0, 2, 1), 1);
        t.put(0, 0, MAX);
        due("as ints", t.cell(0, 0, 2), MAX);
        due("as bytes", t.cell(0, 0, 0), LOST);
        due("fault()", t.fault(), 2);
        due("one cell", t.cell(0, 1, 2), LOST);
        due("fault()", t.fault(), 3);
    }

    static void p29_eachSheetApart(Train t) {
        for (int k = 0; k < 4; k++) {
            t.fill(k, 2, k + 1, k + 2);
        }
        t.sheet(1, 2, 2);
        due("SHEET 0", t.cell(0, 1, 2), 2);
        due("SHEET 1", t.cell(1, 1, 2), 0);
        due("SHEET 2", t.cell(2, 1, 2), 4);
        due("SHEET 3", t.cell(3, 1, 2), 5);
    }

    // ---- promise 30

    static void p30_unknown(Train t) {
        refused("SHEET -1", x -> x.lose(-1), UNKNOWN);
        refused("SHEET 4", x -> x.lose(4), UNKNOWN);
        refused("SHEET MAX", x -> x.lose(MAX), UNKNOWN);
    }

    static void p30_itHadNothing(Train t) {
        refused("SHEET 3 of a scene", x -> x.lose(3), 0);
        for (int k = 0; k < 4; k++) {
            due("of a new object", t.lose(k), 0);
        }
        t.sheet(2, 1, 0);
        due("a row of none", t.lose(2), 1);
        due("twice", t.lose(2), 0);
    }

    static void p30_hasNothing(Train t) {
        t.fill(0, 0, 1);
        t.fill(1, 0, 2);
        due("lose(0)", t.lose(0), 1);
        due("put", t.put(0, 0, 0), NULL);
        due("cell", t.cell(0, 0, 0), LOST);
        due("fault()", t.fault(), 1);
        due("another one stays", t.cell(1, 0, 0), 2);
    }

    // ---- promise 31

    static void p31_unknown(Train t) {
        faulted("SHEET -1", x -> x.put(-1, 0, 9), UNKNOWN, 0);
        faulted("SHEET 4", x -> x.put(4, 0, 9), UNKNOWN, 0);
    }

    static void p31_null(Train t) {
        faulted("SHEET 3", x -> x.put(3, 0, 9), NULL, 1);
        faulted("ahead of INDEX", x -> x.put(3, -1, 9), NULL, 1);
    }

    static void p31_index(Train t) {
        for (int k = 0; k < 3; k++) {
            int sheet = k;
            faulted("cell -1", x -> x.put(sheet, -1, 9), INDEX, 3);
            faulted("cell 7 of 7", x -> x.put(sheet, 7, 9), INDEX, 3);
            faulted("cell MIN", x -> x.put(sheet, MIN, 9), INDEX, 3);
            faulted("cell MAX", x -> x.put(sheet, MAX, 9), INDEX, 3);
        }
        t.sheet(0, 2, 0);
        due("cell 0 of 0", t.put(0, 0, 9), INDEX);
        t.sheet(0, 2, 60);
        due("cell 59 of 60", t.put(0, 59, 9), 1);
        due("cell 60 of 60", t.put(0, 60, 9), INDEX);
    }

    private static void duePut(Train t, int lane, int value, int want) {
        t.sheet(0, lane, 2);
        due("put", t.put(0, 1, value), 1);
        due("fault()", t.fault(), 0);
        due(value + " in LANE " + lane, t.cell(0, 1, lane), want);
        due("the cell ahead", t.cell(0, 0, lane), 0);
    }

    static void p31_cutToBytes(Train t) {
        int[][] cut = {{127, 127}, {128, -128}, {255, -1}, {256, 0}, {-128, -128}, {-129, 127}, {300, 44}, {MAX, -1}, {MIN, 0}};
        for (int[] c : cut) {
            duePut(t, 0, c[0], c[1]);
        }
    }

    static void p31_cutToShorts(Train t) {
        int[][] cut = {{32767, 32767}, {32768, -32768}, {65535, -1}, {65536, 0}, {-32768, -32768}, {-32769, 32767},
            {70001, 4465}, {MAX, -1}, {MIN, 0}};
        for (int[] c : cut) {
            duePut(t, 1, c[0], c[1]);
        }
    }

    static void p31_intsAsTheyAre(Train t) {
        for (int v : new int[] {MAX, MIN, -1, 0, 70001}) {
            duePut(t, 2, v, v);
        }
    }

    // ---- promise 32

    static void p32_unknown(Train t) {
        faulted("SHEET -1", x -> x.cell(-1, 0, 0), LOST, 0);
        faulted("SHEET 4", x -> x.cell(4, 0, 0), LOST, 0);
    }

    static void p32_laneOutside(Train t) {
        faulted("LANE -1", x -> x.cell(0, 0, -1), LOST, 0);
        faulted("LANE 3", x -> x.cell(0, 0, 3), LOST, 0);
        faulted("ahead of NULL", x -> x.cell(3, 0, 3), LOST, 0);
        faulted("ahead of INDEX", x -> x.cell(0, -1, 3), LOST, 0);
    }

    static void p32_cast(Train t) {
        for (int k = 0; k < 3; k++) {
            for (int lane = 0; lane < 3; lane++) {
                int sheet = k, as = lane;
                if (k != lane) {
                    faulted("LANE", x -> x.cell(sheet, 0, as), LOST, 2);
                    faulted("ahead of INDEX", x -> x.cell(sheet, 7, as), LOST, 2);
                }
            }
        }
    }

    static void p32_nothingIsNoCastButNull(Train t) {
        for (int lane = 0; lane < 3; lane++) {
            int as = lane;
            faulted("LANE " + lane, x -> x.cell(3, 0, as), LOST, 1);
            faulted("ahead of INDEX", x -> x.cell(3, -1, as), LOST, 1);
        }
    }

    static void p32_index(Train t) {
        faulted("cell -1", x -> x.cell(0, -1, 0), LOST, 3);
        faulted("cell 7 of 7", x -> x.cell(1, 7, 1), LOST, 3);
        faulted("cell MAX", x -> x.cell(2, MAX, 2), LOST, 3);
        faulted("cell MIN", x -> x.cell(2, MIN, 2), LOST, 3);
    }

    static void p32_firstAndLast(Train t) {
        t.fill(2, 1, -5, 6, 7);
        due("the first", t.cell(2, 0, 1), -5);
        due("the last", t.cell(2, 2, 1), 7);
        due("fault()", t.fault(), 0);
    }

    // ---- promise 33

    private static void dueCells(Train t, int k, int lane, int... want) {
        for (int i = 0; i < want.length; i++) {
            due("cell " + i + " of SHEET " + k, t.cell(k, i, lane), want[i]);
        }
        due("cells of SHEET " + k, t.cell(k, want.length, lane), LOST);
    }

    static void p33_unknown(Train t) {
        faulted("SHEET -1", x -> x.copy(-1, 0, 0, 0, 1), UNKNOWN, 0);
        faulted("SHEET 4", x -> x.copy(4, 0, 0, 0, 1), UNKNOWN, 0);
        faulted("the other -1", x -> x.copy(0, 0, -1, 0, 1), UNKNOWN, 0);
        faulted("the other 4", x -> x.copy(0, 0, 4, 0, 1), UNKNOWN, 0);
        faulted("ahead of NULL", x -> x.copy(3, 0, 4, 0, 1), UNKNOWN, 0);
    }

    static void p33_null(Train t) {
        faulted("the first", x -> x.copy(3, 0, 0, 0, 1), NULL, 1);
        faulted("the other", x -> x.copy(0, 0, 3, 0, 1), NULL, 1);
        faulted("both", x -> x.copy(3, 0, 3, 0, 0), NULL, 1);
        faulted("ahead of INDEX", x -> x.copy(0, -1, 3, -1, -1), NULL, 1);
    }

    static void p33_unlikeLanes(Train t) {
        for (int k = 0; k < 3; k++) {
            for (int other = 0; other < 3; other++) {
                int from = k, to = other;
                if (k != other) {
                    faulted("LANES " + k + ", " + other, x -> x.copy(from, 0, to, 0, 1), CAST, 2);
                    faulted("none of them", x -> x.copy(from, 0, to, 0, 0), CAST, 2);
                    faulted("ahead of INDEX", x -> x.copy(from, 9, to, -1, -1), CAST, 2);
                }
            }
        }
    }

    static void p33_indexBelow0(Train t) {
        faulted("i -1", x -> x.copy(0, -1, 0, 0, 2), INDEX, 3);
        faulted("j -1", x -> x.copy(0, 0, 0, -1, 2), INDEX, 3);
        faulted("n -1", x -> x.copy(0, 1, 0, 1, -1), INDEX, 3);
        faulted("n MIN", x -> x.copy(0, 0, 0, 0, MIN), INDEX, 3);
        faulted("i MIN", x -> x.copy(0, MIN, 0, 0, 2), INDEX, 3);
        faulted("j MIN", x -> x.copy(0, 0, 0, MIN, 2), INDEX, 3);
        faulted("i -1, none", x -> x.copy(0, -1, 0, 0, 0), INDEX, 3);
        faulted("j -1, none", x -> x.copy(0, 0, 0, -1, 0), INDEX, 3);
    }

    static void p33_indexBeyond(Train t) {
        faulted("i", x -> x.copy(0, 6, 0, 0, 2), INDEX, 3);
        faulted("j", x -> x.copy(0, 0, 0, 6, 2), INDEX, 3);
        faulted("n", x -> x.copy(0, 0, 0, 0, 8), INDEX, 3);
        faulted("i and n wrap", x -> x.copy(0, 2, 0, 0, MAX), INDEX, 3);
        faulted("j and n wrap", x -> x.copy(0, 0, 0, MAX, MAX), INDEX, 3);
        faulted("i 8 of 7, none", x -> x.copy(0, 8, 0, 0, 0), INDEX, 3);
        faulted("j 8 of 7, none", x -> x.copy(0, 0, 0, 8, 0), INDEX, 3);
    }

    static void p33_indexBeyondTheOther(Train t) {
        t.fill(0, 2, 1, 2, 3, 4, 5);
        t.fill(1, 2, 6, 7);
        due("three to two", t.copy(0, 0, 1, 0, 3), INDEX);
        due("two to one", t.copy(0, 0, 1, 1, 2), INDEX);
        due("three from two", t.copy(1, 0, 0, 0, 3), INDEX);
        dueCells(t, 0, 2, 1, 2, 3, 4, 5);
        dueCells(t, 1, 2, 6, 7);
    }

    static void p33_none(Train t) {
        faulted("none at the beginning", x -> x.copy(0, 0, 0, 0, 0), 0, 0);
        faulted("none at the ends", x -> x.copy(0, 7, 0, 7, 0), 0, 0);
        t.sheet(0, 1, 0);
        due("none of none", t.copy(0, 0, 0, 0, 0), 0);
        due("one of none", t.copy(0, 0, 0, 0, 1), INDEX);
    }

    static void p33_toAnotherOne(Train t) {
        t.fill(0, 1, 1, 2, 3, 4);
        t.fill(1, 1, 5, 6, 7);
        due("2 cells", t.copy(0, 2, 1, 1, 2), 2);
        due("fault()", t.fault(), 0);
        dueCells(t, 0, 1, 1, 2, 3, 4);
        dueCells(t, 1, 1, 5, 3, 4);
    }

    /** All of a row that is as long as can be. */
    static void p33_all60(Train t) {
        t.sheet(0, 0, 60);
        t.sheet(1, 0, 60);
        t.put(0, 0, 5);
        t.put(0, 59, -6);
        due("60 cells", t.copy(0, 0, 1, 0, 60), 60);
        due("the first", t.cell(1, 0, 0), 5);
        due("the last", t.cell(1, 59, 0), -6);
        due("61 cells", t.copy(0, 0, 1, 0, 61), INDEX);
    }

    /** As they were: what is written doesn't go on. */
    static void p33_theSameOne(Train t) {
        t.fill(0, 2, 1, 2, 3, 4, 5);
        due("onwards", t.copy(0, 0, 0, 1, 4), 4);
        dueCells(t, 0, 2, 1, 1, 2, 3, 4);
        due("back", t.copy(0, 1, 0, 0, 4), 4);
        dueCells(t, 0, 2, 1, 2, 3, 4, 4);
        due("onto itself", t.copy(0, 0, 0, 0, 5), 5);
        dueCells(t, 0, 2, 1, 2, 3, 4, 4);
    }

    // ---- promise 34

    private static void oneOfEach(Train t, int slept) {
        t.carriage("c13;fff");
        for (int kind = 0; kind < 3; kind++) {
            t.one(kind, kind, slept, 0);
        }
    }

    private static int traceOf(int... numbers) {
        BigInteger trace = BigInteger.ZERO;
        for (int number : numbers) {
            trace = trace.multiply(BigInteger.valueOf(31)).add(BigInteger.valueOf(number));
        }
        return trace.intValue();
    }

    static void p34_unknown(Train t) {
        refused("ONE -1", x -> x.tell(-1), UNKNOWN);
        refused("ONE 3 of 3", x -> x.tell(3), UNKNOWN);
        refused("ONE NONE", x -> x.tell(NONE), UNKNOWN);
        refused("ONE 12", x -> x.tell(12), UNKNOWN);
    }

    static void p34_mostTired(Train t) {
        oneOfEach(t, 0);
        due("a PERSON", t.tell(0), 9);
        due("a CHILD", t.tell(1), 109);
        due("a DOG", t.tell(2), 118);
    }

    static void p34_leastTired(Train t) {
        oneOfEach(t, 9);
        due("a PERSON", t.tell(0), 0);
        due("a CHILD", t.tell(1), 100);
        due("a DOG", t.tell(2), 100);
    }

    static void p34_bodiesOfEachKind(Train t) {
        int[][] left = {{1}, {2, 1}, {3, 2, 1, 1}};
        for (int kind = 0; kind < 3; kind++) {
            Train other = new Train();
            oneOfEach(other, 5);
            other.tell(kind);
            due("trace() of kind " + kind, other.trace(), traceOf(left[kind]));
        }
    }

    // ---- promise 35

    static void p35_unknown(Train t) {
        refused("ONE -1", x -> x.wake(-1), UNKNOWN);
        refused("ONE 3 of 3", x -> x.wake(3), UNKNOWN);
        refused("ONE MAX", x -> x.wake(MAX), UNKNOWN);
    }

    static void p35_theNumberOfThatOne(Train t) {
        fullScene(t);
        int trace = t.trace();
        for (int x = 0; x < 12; x++) {
            due("ONE " + x, t.wake(x), x);
            trace = 31 * trace + 4;
            due("trace()", t.trace(), trace);
        }
        due("ONE 12", t.wake(12), UNKNOWN);
        due("trace() stays", t.trace(), trace);
    }

    static void p35_dogsHaveTheirOwn(Train t) {
        oneOfEach(t, 5);
        due("a PERSON", t.wake(0), 0);
        due("a CHILD", t.wake(1), 1);
        due("a DOG", t.wake(2), 80);
        due("trace()", t.trace(), traceOf(4, 4, 5));
    }

    // ---- promise 36

    static void p36_unknown(Train t) {
        faulted("ONE -1", x -> x.as(-1, 0), UNKNOWN, 0);
        faulted("ONE 3 of 3", x -> x.as(3, 0), UNKNOWN, 0);
        faulted("ONE ahead of kind", x -> x.as(3, 3), UNKNOWN, 0);
    }

    static void p36_outside(Train t) {
        faulted("kind -1", x -> x.as(0, -1), OUTSIDE, 0);
        faulted("kind 3", x -> x.as(2, 3), OUTSIDE, 0);
        faulted("kind MAX", x -> x.as(0, MAX), OUTSIDE, 0);
        faulted("kind MIN", x -> x.as(2, MIN), OUTSIDE, 0);
    }

    static void p36_cast(Train t) {
        faulted("a PERSON as a CHILD", x -> x.as(0, 1), CAST, 2);
        faulted("a PERSON as a DOG", x -> x.as(0, 2), CAST, 2);
        faulted("a CHILD as a DOG", x -> x.as(1, 2), CAST, 2);
    }

    static void p36_oneOfAKind(Train t) {
        faulted("a PERSON as a PERSON", x -> x.as(0, 0), 1, 0);
        faulted("a CHILD as a PERSON", x -> x.as(1, 0), 1, 0);
        faulted("a CHILD as a CHILD", x -> x.as(1, 1), 1, 0);
        faulted("a DOG as a PERSON", x -> x.as(2, 0), 1, 0);
        faulted("a DOG as a CHILD", x -> x.as(2, 1), 1, 0);
        faulted("a DOG as a DOG", x -> x.as(2, 2), 1, 0);
    }

    // ---- promise 37

    static void p37_zeroAtFirst(Train t) {
        due("trace()", t.trace(), 0);
        oneOfEach(t, 5);
        due("nobody told it yet", t.trace(), 0);
    }

    /** Behind some seven numbers it is beyond an int. */
    static void p37_wraps(Train t) {
        oneOfEach(t, 5);
        int[] numbers = new int[40];
        for (int i = 0; i < 40; i++) {
            t.wake(2);
            numbers[i] = 5;
            due("behind " + (i + 1), t.trace(), traceOf(java.util.Arrays.copyOf(numbers, i + 1)));
        }
        t = new Train();
        oneOfEach(t, 5);
        t.tell(2);
        t.tell(2);
        due("below 0", t.trace(), traceOf(3, 2, 1, 1, 3, 2, 1, 1));
        due("beyond an int", t.trace() < 0 ? 1 : 0, traceOf(3, 2, 1, 1, 3, 2, 1, 1) < 0 ? 1 : 0);
    }

    static void p37_otherCallsLeaveIt(Train t) {
        scene(t);
        int trace = t.trace();
        due("of a DOG told in a scene", trace, traceOf(3, 2, 1, 1));
        t.might(0, 2, 1);
        t.might(0, 2, NONE);
        t.as(2, 2);
        t.ofOne(2, 0);
        t.spread(0);
        t.blinds(0, 1, -1);
        t.film(0, 1, 0, 2, 0);
        t.parts(0, 1, 0);
        t.night(0, 0, 0, 0, 3);
        t.causes(0, 2);
        t.move(2, 5);
        due("trace()", t.trace(), trace);
    }

    // ---- promise 38

    /** fault() is 3 in a scene: a call that names FAULTS and comes to none makes it 0. */
    private static void dueCome(String name, java.util.function.ToLongFunction<Train> call, long want, int fault) {
        Train t = new Train();
        scene(t);
        due("fault() ahead of " + name, t.fault(), 3);
        due(name, call.applyAsLong(t), want);
        due("fault() behind " + name, t.fault(), fault);
        due("fault() told twice", t.fault(), fault);
    }

    static void p38_aheadOfAny(Train t) {
        due("fault()", t.fault(), 0);
        t.many(0);
        t.lose(0);
        t.tell(0);
        due("behind calls that name none", t.fault(), 0);
    }

    static void p38_itCameToNone(Train t) {
        dueCome("carriage", x -> x.carriage(0, 0, 0, 5), 1, 0);
        dueCome("law", x -> x.law(1, 1, 5, 2), 2, 0);
        dueCome("night", x -> x.night(0, 2, 2, 0, 2), 0, 0);
        dueCome("sheet", x -> x.sheet(3, 2, 60), 1, 0);
        dueCome("put", x -> x.put(0, 6, 9), 1, 0);
        dueCome("cell", x -> x.cell(0, 6, 0), '1', 0);
        dueCome("copy", x -> x.copy(0, 0, 0, 1, 2), 2, 0);
        dueCome("as", x -> x.as(2, 1), 1, 0);
    }

    static void p38_itWasRefused(Train t) {
        dueCome("carriage", x -> x.carriage(4, 0, 0, 5), UNKNOWN, 0);
        dueCome("carriage by no TEXT", x -> x.carriage(0, 0, 1, 5), -100, 0);
        dueCome("law", x -> x.law(0, 3, 0, 5), OUTSIDE, 0);
        dueCome("law by no TEXT", x -> x.law(0, 0, 0, 5), -100, 0);
        dueCome("night", x -> x.night(2, 0, 0, 0, 5), UNKNOWN, 0);
        dueCome("sheet", x -> x.sheet(0, 0, 61), OUTSIDE, 0);
        dueCome("put", x -> x.put(4, 0, 0), UNKNOWN, 0);
        dueCome("cell", x -> x.cell(0, 0, 3), LOST, 0);
        dueCome("copy", x -> x.copy(0, 0, 4, 0, 1), UNKNOWN, 0);
        dueCome("as", x -> x.as(2, 3), OUTSIDE, 0);
    }

    static void p38_anotherFault(Train t) {
        dueCome("carriage", x -> x.carriage(0, 0, 0, -1), SIZE, 4);
        dueCome("law", x -> x.law(3, 0, 0, 5), NULL, 1);
        dueCome("night", x -> x.night(0, 0, 1, 0, 5), CAST, 2);
        dueCome("sheet", x -> x.sheet(0, 0, -1), SIZE, 4);
        dueCome("put", x -> x.put(3, 0, 0), NULL, 1);
        dueCome("cell", x -> x.cell(0, 0, 1), LOST, 2);
        dueCome("copy", x -> x.copy(0, 0, 1, 0, 1), CAST, 2);
        dueCome("as", x -> x.as(0, 2), CAST, 2);
    }

    static void p38_callsThatNameNoneLeaveIt(Train t) {
        dueCome("ofSeat", x -> x.ofSeat(0, 1), 0, 3);
        dueCome("line", x -> x.line(0, 1), 0, 3);
        dueCome("blind", x -> x.blind(0, 1, true), 1, 3);
        dueCome("one", x -> x.one(0, 1, 0, 0), 3, 3);
        dueCome("ofOne", x -> x.ofOne(0, 2), 3, 3);
        dueCome("move", x -> x.move(0, 1), 0, 3);
        dueCome("ofLaw", x -> x.ofLaw(0, 1), 4, 3);
        dueCome("might", x -> x.might(0, 0, NONE), 7, 3);
        dueCome("yawn", x -> x.yawn(9, 0), 3, 3);
        dueCome("ofYawn", x -> x.ofYawn(0, 0), 2, 3);
        dueCome("back", x -> x.back(1), 2, 3);
        dueCome("could", x -> x.could(1, 0), 0, 3);
        dueCome("share", x -> x.share(0, 0, NONE, 1), 1, 3);
        dueCome("barred", x -> x.barred(1), 0, 3);
        dueCome("trees", x -> x.trees(1), 0, 3);
        dueCome("causes", x -> x.causes(0, 2), 0, 3);
        dueCome("most by a LAW that bars", x -> x.most(1), STATE, 3);
        dueCome("goesOn by a LAW that bars", x -> x.goesOn(1), STATE, 3);
        dueCome("chain", x -> x.chain(1), 1, 3);
        dueCome("missed", x -> x.missed(1, 0), 0, 3);
        dueCome("spread", x -> x.spread(1), 0, 3);
        dueCome("blinds", x -> x.blinds(1, 1, 0), 1, 3);
        dueCome("parts", x -> x.parts(0, 0, 1), 1, 3);
        dueCome("film", x -> x.film(0, 0, 0, 1, 1), 1, 3);
        dueCome("lose", x -> x.lose(3), 0, 3);
        dueCome("tell", x -> x.tell(0), 6, 3);
        dueCome("wake", x -> x.wake(2), 80, 3);
        dueCome("many", x -> x.many(1), 3, 3);
    }

    static void p38_ofEachNumber(Train t) {
        due("NULL", t.put(0, 0, 0), -11);
        due("fault()", t.fault(), 1);
        t.sheet(0, 0, 1);
        due("CAST", t.carriage(0, 1, 0, 1), -12);
        due("fault()", t.fault(), 2);
        due("INDEX", t.put(0, 1, 0), -13);
        due("fault()", t.fault(), 3);
        due("SIZE", t.sheet(0, 0, -1), -14);
        due("fault()", t.fault(), 4);
    }

    // ---- promise 39

    static void p39_outside(Train t) {
        refused("what -1", x -> x.many(-1), OUTSIDE);
        refused("what 5", x -> x.many(5), OUTSIDE);
        refused("what MIN", x -> x.many(MIN), OUTSIDE);
        refused("what MAX", x -> x.many(MAX), OUTSIDE);
    }

    static void p39_noneAtFirst(Train t) {
        for (int what = 0; what < 5; what++) {
            due("many(" + what + ")", t.many(what), 0);
        }
    }

    static void p39_eachCount(Train t) {
        scene(t);
        t.blind(0, 1, true);
        t.law("o1");
        t.yawns(8, 0, 8, 1);
        t.one(0, 1, 0, 0);
        int[] counts = {6, 4, 3, 5, 2};
        for (int what = 0; what < 5; what++) {
            due("many(" + what + ")", t.many(what), counts[what]);
        }
    }

    static void p39_greatest(Train t) {
        fullScene(t);
        due("ONES", t.many(1), 12);
        due("LAWS", t.many(2), 6);
        due("YAWNS", t.many(3), 24);
        t.carriage("c84;ffffffffffffffffffffffffffffffff");
        due("SEATS", t.many(0), 32);
    }

    public static void main(String[] args) throws Exception {
        runAll(SheetsBoundsRuns.class, 29, 39);
    }
}
