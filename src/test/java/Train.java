import java.util.ArrayList;
import java.util.List;

/** A YawnTrain whose calls are counted, since nothing is promised behind the 512th; and what tests often do with one. */
final class Train {
    private static final int MOST_CALLS = 512;

    private final YawnTrain yawnTrain = new YawnTrain();
    private int calls;

    private YawnTrain call() {
        calls++;
        if (calls > MOST_CALLS) {
            throw new IllegalStateException("the test makes more than " + MOST_CALLS + " calls of one object");
        }
        return yawnTrain;
    }

    int carriage(int sheet, int lane, int i, int n) { return call().carriage(sheet, lane, i, n); }
    int ofSeat(int c, int what) { return call().ofSeat(c, what); }
    int line(int c, int d) { return call().line(c, d); }
    int blind(int c, int d, boolean has) { return call().blind(c, d, has); }
    int one(int kind, int c, int slept, int kin) { return call().one(kind, c, slept, kin); }
    int ofOne(int x, int what) { return call().ofOne(x, what); }
    int move(int x, int c) { return call().move(x, c); }
    int law(int sheet, int lane, int i, int n) { return call().law(sheet, lane, i, n); }
    int ofLaw(int l, int what) { return call().ofLaw(l, what); }
    int might(int l, int x, int y) { return call().might(l, x, y); }
    int yawn(int minute, int x) { return call().yawn(minute, x); }
    int ofYawn(int j, int what) { return call().ofYawn(j, what); }
    int back(int k) { return call().back(k); }
    int could(int l, int j) { return call().could(l, j); }
    long share(int l, int j, int i, int which) { return call().share(l, j, i, which); }
    int barred(int l) { return call().barred(l); }
    int trees(int l) { return call().trees(l); }
    int causes(int l, int x) { return call().causes(l, x); }
    int most(int l) { return call().most(l); }
    int goesOn(int l) { return call().goesOn(l); }
    int chain(int l) { return call().chain(l); }
    int missed(int l, int what) { return call().missed(l, what); }
    int night(int l, int sheet, int lane, int i, int n) { return call().night(l, sheet, lane, i, n); }
    int spread(int l) { return call().spread(l); }
    int blinds(int l, int k, int q) { return call().blinds(l, k, q); }
    int parts(int l, int m, int what) { return call().parts(l, m, what); }
    long film(int l, int m, int y, int x, int which) { return call().film(l, m, y, x, which); }
    int sheet(int k, int lane, int n) { return call().sheet(k, lane, n); }
    int lose(int k) { return call().lose(k); }
    int put(int k, int i, int v) { return call().put(k, i, v); }
    long cell(int k, int i, int lane) { return call().cell(k, i, lane); }
    int copy(int k, int i, int other, int j, int n) { return call().copy(k, i, other, j, n); }
    int tell(int x) { return call().tell(x); }
    int wake(int x) { return call().wake(x); }
    int as(int x, int kind) { return call().as(x, kind); }
    int trace() { return call().trace(); }
    int fault() { return call().fault(); }
    int many(int what) { return call().many(what); }

    /** A SHEET gets a new row of a LANE that holds these numbers. */
    void fill(int k, int lane, int... values) {
        sheet(k, lane, values.length);
        for (int i = 0; i < values.length; i++) {
            put(k, i, values[i]);
        }
    }

    /** A SHEET gets a new row of a LANE that holds a TEXT's codes. */
    void write(int k, int lane, String text) {
        fill(k, lane, text.chars().toArray());
    }

    /** A CARRIAGE by a TEXT that SHEET 3 holds as ints. */
    int carriage(String text) {
        write(3, 2, text);
        return carriage(3, 2, 0, text.length());
    }

    /** A LAW by a TEXT that SHEET 3 holds as ints. */
    int law(String text) {
        write(3, 2, text);
        return law(3, 2, 0, text.length());
    }

    /** A NIGHT by draws that SHEET 3 holds as ints. */
    int nightBy(int l, int... draws) {
        fill(3, 2, draws);
        return night(l, 3, 2, 0, draws.length);
    }

    /** YAWNS: a minute and who, by turns. */
    void yawns(int... minutesAndWho) {
        for (int p = 0; p < minutesAndWho.length; p += 2) {
            yawn(minutesAndWho[p], minutesAndWho[p + 1]);
        }
    }

    /** All that an object holds but fault(); the last thing asked of it, since the asking puts BLINDS. */
    List<Long> held() {
        List<Long> all = new ArrayList<>();
        for (int what = 0; what < 5; what++) {
            all.add((long) many(what));
        }
        int seats = many(0);
        addCarriage(all, seats);
        addOnes(all);
        for (int k = 0; k < 4; k++) {
            addSheet(all, k);
        }
        for (int c = 0; c < seats; c++) {
            for (int d = c + 1; d <= c + 4; d++) {
                all.add((long) blind(c, d, true));
            }
        }
        return all;
    }

    private void addCarriage(List<Long> all, int seats) {
        for (int c = 0; c < seats; c++) {
            for (int what = 0; what < 3; what++) {
                all.add((long) ofSeat(c, what));
            }
        }
        all.add((long) trace());
    }

    private void addOnes(List<Long> all) {
        int ones = many(1), laws = many(2), yawns = many(3);
        for (int x = 0; x < ones; x++) {
            for (int what = 0; what < 4; what++) {
                all.add((long) ofOne(x, what));
            }
        }
        for (int l = 0; l < laws; l++) {
            for (int what = 0; what < 7; what++) {
                all.add((long) ofLaw(l, what));
            }
        }
        for (int j = 0; j < yawns; j++) {
            all.add((long) ofYawn(j, 0));
            all.add((long) ofYawn(j, 1));
        }
    }

    /** The LANE and the cells of a SHEET; a LANE of 3, if it has nothing. */
    private void addSheet(List<Long> all, int k) {
        int lane = 0;
        while (lane < 3 && cell(k, 0, lane) == YawnTrain.LOST && fault() != 3) {
            lane++;
        }
        all.add((long) lane);
        for (int i = 0; lane < 3 && cell(k, i, lane) != YawnTrain.LOST; i++) {
            all.add(cell(k, i, lane));
        }
    }
}
