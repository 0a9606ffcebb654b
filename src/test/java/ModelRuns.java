import java.util.ArrayList;
import java.util.List;
import java.util.regex.Matcher;
import java.util.regex.Pattern;

/**
 * Runs of drawn calls on YawnTrain and on a slow model that is written apart from it, by the document alone:
 * it walks LINES by rows and columns, tries all sets of BLINDS and all YAWNS missed. All answers must agree.
 */
public final class ModelRuns {
    private static final int UNKNOWN = -1, OUTSIDE = -2, STATE = -3, FULL = -4, NONE = -9;
    private static final long LOST = Long.MIN_VALUE;

    /** The model. */
    private static final class Model {
        final int[][] sheet = new int[4][];
        final int[] lane = new int[4];
        int rows, cols;
        boolean mirror;
        String faces = "";
        boolean[][] blind = new boolean[32][32];
        List<int[]> ones = new ArrayList<>();
        final List<int[]> laws = new ArrayList<>();
        List<int[]> yawns = new ArrayList<>();
        int trace;
        int fault;

        // ---- texts

        int cells(int k, int ln, int i, int n) {
            fault = 0;
            if (k < 0 || k > 3) return UNKNOWN;
            if (ln < 0 || ln > 2) return OUTSIDE;
            if (sheet[k] != null && lane[k] != ln) return fail(2);
            if (sheet[k] == null) return fail(1);
            if (n < 0) return fail(4);
            if (i < 0 || i > sheet[k].length || (long) i + n > sheet[k].length) return fail(3);
            return 0;
        }

        int fail(int f) {
            fault = f;
            return -10 - f;
        }

        String text(int k, int i, int n) {
            StringBuilder b = new StringBuilder();
            for (int p = i; p < i + n; p++) {
                int v = sheet[k][p];
                b.append(v < 0 || v > 127 ? '#' : (char) v);
            }
            return b.toString();
        }

        static final Pattern CARRIAGE = carriagePattern();
        static final Pattern LAW = Pattern.compile("([osey][0-9]|[kft][1-9])(;([osey][0-9]|[kft][1-9])){0,6}");
        // OWN, SIGHT, EAR, YOUNG begin at 0, KIN, FROM, TILL at 1.

        static Pattern carriagePattern() {
            StringBuilder b = new StringBuilder();
            for (int l = 1; l <= 8; l++) {
                for (int w = 1; w <= 4; w++) {
                    b.append(b.length() == 0 ? "" : "|").append("c").append(l).append(w)
                        .append("m?;[fblr]{").append(l * w).append("}");
                }
            }
            return Pattern.compile(b.toString());
        }

        static boolean goesOn(Pattern p, String prefix, boolean isLaw) {
            if (isLaw) {
                for (int i = 0; i < prefix.length(); i += 3) {
                    if (prefix.substring(0, i).indexOf(prefix.charAt(i)) >= 0) return false;
                }
                if (prefix.length() > 20) return false;
            }
            Matcher m = p.matcher(prefix);
            return m.matches() || m.hitEnd();
        }

        static int firstFault(Pattern p, String text, boolean isLaw) {
            for (int n = 1; n <= text.length(); n++) {
                if (!goesOn(p, text.substring(0, n), isLaw)) return n - 1;
            }
            return p.matcher(text).matches() ? -1 : text.length();
        }

        int carriage(int k, int ln, int i, int n) {
            int no = cells(k, ln, i, n);
            if (no != 0) return no;
            String t = text(k, i, n);
            int at = firstFault(CARRIAGE, t, false);
            if (at >= 0) return -100 - at;
            rows = t.charAt(1) - '0';
            cols = t.charAt(2) - '0';
            mirror = t.charAt(3) == 'm';
            faces = t.substring(t.indexOf(';') + 1);
            blind = new boolean[32][32];
            ones = new ArrayList<>();
            yawns = new ArrayList<>();
            return faces.length();
        }

        // ---- seats

        boolean seat(int c) {
            return c >= 0 && c < faces.length();
        }

        boolean gap(int c, int d) {
            return Math.abs(c / cols - d / cols) + Math.abs(c % cols - d % cols) == 1;
        }

        boolean[] lineFrom(int c) {
            boolean[] on = new boolean[32];
            char f = faces.charAt(c);
            int dr = f == 'f' ? -1 : f == 'b' ? 1 : 0;
            int dc = f == 'l' ? -1 : f == 'r' ? 1 : 0;
            int r = c / cols, q = c % cols;
            while (inside(r + dr, q + dc) && !blind[r * cols + q][(r + dr) * cols + q + dc]) {
                r += dr;
                q += dc;
                on[r * cols + q] = true;
            }
            if (inside(r + dr, q + dc) || !mirror || dr == 0) return on;
            on[r * cols + q] = true;
            while (inside(r - dr, q) && !blind[r * cols + q][(r - dr) * cols + q]) {
                r -= dr;
                on[r * cols + q] = true;
            }
            return on;
        }

        boolean inside(int r, int q) {
            return r >= 0 && r < rows && q >= 0 && q < cols;
        }

        int sitter(int c) {
            for (int x = 0; x < ones.size(); x++) if (ones.get(x)[1] == c) return x;
            return NONE;
        }

        int ofSeat(int c, int what) {
            if (!seat(c)) return UNKNOWN;
            if (what == 0) return "fblr".indexOf(faces.charAt(c));
            if (what == 1) return sitter(c);
            if (what != 2) return OUTSIDE;
            boolean[] on = lineFrom(c);
            int set = 0;
            for (int d = 0; d <= 30; d++) if (on[d]) set += 1 << d;
            return set;
        }

        int line(int c, int d) {
            if (!seat(c) || !seat(d)) return UNKNOWN;
            return lineFrom(c)[d] ? 1 : 0;
        }

        int blind(int c, int d, boolean has) {
            if (!seat(c) || !seat(d)) return UNKNOWN;
            if (!gap(c, d)) return OUTSIDE;
            if (blind[c][d] == has) return 0;
            blind[c][d] = has;
            blind[d][c] = has;
            return 1;
        }

        // ---- ones, laws

        int one(int kind, int c, int slept, int kin) {
            if (!seat(c)) return UNKNOWN;
            if (kind < 0 || kind > 2 || slept < 0 || slept > 9 || kin < 0 || kin > 9) return OUTSIDE;
            if (sitter(c) >= 0) return STATE;
            if (ones.size() == 12) return FULL;
            ones.add(new int[] {kind, c, slept, kin});
            return ones.size() - 1;
        }

        boolean isOne(int x) {
            return x >= 0 && x < ones.size();
        }

        boolean sees(int x, int y) {
            return x != y && lineFrom(ones.get(x)[1])[ones.get(y)[1]];
        }

        boolean hears(int x, int y) {
            return x != y && gap(ones.get(x)[1], ones.get(y)[1]);
        }

        int ofOne(int x, int what) {
            if (!isOne(x)) return UNKNOWN;
            if (what < 0 || what > 5) return OUTSIDE;
            if (what < 4) return ones.get(x)[what];
            int set = 0;
            for (int y = 0; y < ones.size(); y++) if (what == 4 ? sees(x, y) : hears(x, y)) set += 1 << y;
            return set;
        }

        int move(int x, int c) {
            if (!isOne(x) || !seat(c)) return UNKNOWN;
            if (sitter(c) >= 0) return STATE;
            int was = ones.get(x)[1];
            ones.get(x)[1] = c;
            return was;
        }

        int law(int k, int ln, int i, int n) {
            int no = cells(k, ln, i, n);
            if (no != 0) return no;
            String t = text(k, i, n);
            int at = firstFault(LAW, t, true);
            if (at >= 0) return -100 - at;
            if (laws.size() == 6) return FULL;
            int[] law = {1, 6, 2, 3, 3, 1, 5};
            for (String item : t.split(";")) law["osekyft".indexOf(item.charAt(0))] = item.charAt(1) - '0';
            if (law[6] < law[5]) law[6] = law[5];
            laws.add(law);
            return laws.size() - 1;
        }

        boolean isLaw(int l) {
            return l >= 0 && l < laws.size();
        }

        int ofLaw(int l, int what) {
            return isLaw(l) && what >= 0 && what <= 6 ? laws.get(l)[what] : UNKNOWN;
        }

        int caught(int l, int x, int y, boolean sees, boolean hears) {
            int[] law = laws.get(l);
            boolean same = ones.get(x)[3] == ones.get(y)[3];
            int m = sees ? law[1] : hears ? law[2] : 0;
            if (same) m *= law[3];
            if (ones.get(x)[0] >= 1) m = m * law[4] / 9;
            if (ones.get(x)[0] == 2 && !same) m = 0;
            return m;
        }

        int mightOf(int l, int x, int y) {
            if (y != NONE) return caught(l, x, y, sees(x, y), hears(x, y));
            int m = laws.get(l)[0] * (10 - ones.get(x)[2]);
            return ones.get(x)[0] == 0 ? m : m * laws.get(l)[4] / 9;
        }

        int might(int l, int x, int y) {
            if (!isLaw(l) || !isOne(x) || y != NONE && !isOne(y)) return UNKNOWN;
            return x == y ? OUTSIDE : mightOf(l, x, y);
        }

        // ---- yawns

        int last() {
            return yawns.get(yawns.size() - 1)[0];
        }

        int yawn(int minute, int x) {
            if (!isOne(x)) return UNKNOWN;
            if (minute < 0 || minute > 599) return OUTSIDE;
            if (!yawns.isEmpty() && last() > minute) return STATE;
            if (yawns.size() == 24) return FULL;
            yawns.add(new int[] {minute, x});
            return yawns.size() - 1;
        }

        boolean isYawn(int j) {
            return j >= 0 && j < yawns.size();
        }

        int ofYawn(int j, int what) {
            if (!isYawn(j)) return UNKNOWN;
            return what == 0 || what == 1 ? yawns.get(j)[what] : OUTSIDE;
        }

        int back(int k) {
            if (k < 0 || k > yawns.size()) return OUTSIDE;
            for (int t = 0; t < k; t++) yawns.remove(yawns.size() - 1);
            return yawns.size();
        }

        /** MIGHT of a YAWN told as a source of another (NONE: its own). */
        int source(int l, int[] yawn, int[] from) {
            if (from == null) return mightOf(l, yawn[1], NONE);
            int ahead = yawn[0] - from[0];
            if (from[1] == yawn[1] || ahead < laws.get(l)[5] || ahead > laws.get(l)[6]) return 0;
            return mightOf(l, yawn[1], from[1]);
        }

        int whole(int l, int[] yawn, List<int[]> all) {
            int sum = source(l, yawn, null);
            for (int[] from : all) sum += source(l, yawn, from);
            return sum;
        }

        int could(int l, int j) {
            if (!isLaw(l) || !isYawn(j)) return UNKNOWN;
            int set = 0;
            for (int i = 0; i < yawns.size(); i++) if (source(l, yawns.get(j), yawns.get(i)) > 0) set += 1 << i;
            return set;
        }

        long share(int l, int j, int i, int which) {
            if (!isLaw(l) || !isYawn(j) || i != NONE && !isYawn(i) || which < 0 || which > 1) return LOST;
            long whole = whole(l, yawns.get(j), yawns);
            if (whole == 0) return LOST;
            return term(source(l, yawns.get(j), i == NONE ? null : yawns.get(i)), whole, which);
        }

        static long term(long up, long low, int which) {
            for (long d = Math.max(up, low); d > 1; d--) {
                if (up % d == 0 && low % d == 0) return (which == 0 ? up : low) / d;
            }
            return which == 0 ? up : low;
        }

        int barred(int l) {
            if (!isLaw(l)) return UNKNOWN;
            for (int j = 0; j < yawns.size(); j++) if (whole(l, yawns.get(j), yawns) == 0) return j;
            return NONE;
        }

        int trees(int l) {
            if (!isLaw(l)) return UNKNOWN;
            java.math.BigInteger all = java.math.BigInteger.ONE;
            for (int j = 0; j < yawns.size(); j++) {
                int n = Integer.bitCount(could(l, j)) + (source(l, yawns.get(j), null) > 0 ? 1 : 0);
                all = all.multiply(java.math.BigInteger.valueOf(n));
            }
            return all.mod(java.math.BigInteger.valueOf(1000000007)).intValue();
        }

        int causes(int l, int x) {
            if (!isLaw(l) || !isOne(x)) return UNKNOWN;
            if (barred(l) != NONE) return STATE;
            long sum = 0;
            for (int[] yawn : yawns) {
                for (int[] from : yawns) {
                    if (from[1] == x) sum += 1000000L * source(l, yawn, from) / whole(l, yawn, yawns);
                }
            }
            return (int) sum;
        }

        int most(int l) {
            if (!isLaw(l)) return UNKNOWN;
            if (barred(l) != NONE) return STATE;
            int best = NONE, most = -1;
            for (int x = 0; x < ones.size(); x++) {
                if (causes(l, x) > most) {
                    best = x;
                    most = causes(l, x);
                }
            }
            return best;
        }

        int goesOn(int l) {
            if (!isLaw(l)) return UNKNOWN;
            if (barred(l) != NONE) return STATE;
            for (int x = 0; x < ones.size(); x++) {
                int often = 0;
                for (int[] yawn : yawns) often += yawn[1] == x ? 1 : 0;
                if (causes(l, x) > 1000000 * often) return 1;
            }
            return 0;
        }

        int chain(int l) {
            if (!isLaw(l)) return UNKNOWN;
            int longest = 0;
            int[] behind = new int[yawns.size()];
            for (int i = yawns.size() - 1; i >= 0; i--) {
                for (int j = i + 1; j < yawns.size(); j++) {
                    if ((could(l, j) >> i & 1) == 1) behind[i] = Math.max(behind[i], behind[j]);
                }
                longest = Math.max(longest, ++behind[i]);
            }
            return longest;
        }

        int missed(int l, int what) {
            if (!isLaw(l)) return UNKNOWN;
            if (what < 0 || what > 2) return OUTSIDE;
            if (barred(l) == NONE) return STATE;
            int found = 0, minute = NONE, who = NONE;
            for (int t = 0; t <= last(); t++) {
                for (int x = 0; x < ones.size(); x++) {
                    List<int[]> more = new ArrayList<>(yawns);
                    more.add(new int[] {t, x});
                    boolean mended = true;
                    for (int[] yawn : yawns) mended = mended && whole(l, yawn, more) > 0;
                    if (mended && found++ == 0) {
                        minute = t;
                        who = x;
                    }
                }
            }
            return what == 0 ? found : what == 1 ? minute : who;
        }

        // ---- nights, blinds, films

        int night(int l, int k, int ln, int i, int n) {
            fault = 0;
            if (!isLaw(l)) return UNKNOWN;
            int no = cells(k, ln, i, n);
            if (no != 0) return no;
            int all = ones.size();
            int looked = all == 0 ? 0 : n - n % all;
            for (int p = 0; p < looked; p++) if (sheet[k][i + p] < 0 || sheet[k][i + p] > 999) return OUTSIDE;
            if (all == 0) return STATE;
            int from = yawns.isEmpty() ? 1 : last() + 1;
            int before = yawns.size();
            for (int p = 0; p < looked; p++) {
                int[] yawn = {from + p / all, p % all};
                if (yawn[0] <= 599 && yawns.size() < 24 && sheet[k][i + p] < whole(l, yawn, yawns)) yawns.add(yawn);
            }
            return yawns.size() - before;
        }

        int spread(int l) {
            if (!isLaw(l)) return UNKNOWN;
            int sum = 0;
            for (int x = 0; x < ones.size(); x++) {
                boolean[] on = lineFrom(ones.get(x)[1]);
                for (int y = 0; y < ones.size(); y++) {
                    if (x != y) sum += caught(l, x, y, on[ones.get(y)[1]], hears(x, y));
                }
            }
            return sum;
        }

        int least;
        List<int[]> bestSet;

        int blinds(int l, int k, int q) {
            if (!isLaw(l)) return UNKNOWN;
            if (k < 1 || k > 3) return OUTSIDE;
            if (q < -1 || q > 2) return UNKNOWN;
            List<int[]> free = new ArrayList<>();
            for (int c = 0; c < faces.length(); c++) {
                for (int d = c + 1; d < faces.length(); d++) {
                    if (gap(c, d) && !blind[c][d]) free.add(new int[] {c, d});
                }
            }
            if (free.isEmpty()) return STATE;
            least = Integer.MAX_VALUE;
            choose(l, free, 0, Math.min(k, free.size()), new ArrayList<>());
            if (q == -1) return least;
            return q < bestSet.size() ? 100 * bestSet.get(q)[0] + bestSet.get(q)[1] : NONE;
        }

        void choose(int l, List<int[]> free, int from, int more, List<int[]> taken) {
            if (more == 0) {
                int s = spread(l);
                if (s < least) {
                    least = s;
                    bestSet = new ArrayList<>(taken);
                }
                return;
            }
            for (int g = from; g < free.size(); g++) {
                int c = free.get(g)[0], d = free.get(g)[1];
                blind(c, d, true);
                taken.add(free.get(g));
                choose(l, free, g + 1, more - 1, taken);
                taken.remove(taken.size() - 1);
                blind(c, d, false);
            }
        }

        long film(int l, int m, int y, int x, int which) {
            if (!isLaw(l) || !isLaw(m) || !isOne(y) || !isOne(x) || x == y || which < 0 || which > 1) return LOST;
            long a = caught(l, x, y, true, false), b = caught(m, x, y, true, false);
            long up = a * (b + 20) - b * (a + 20);
            return term(Math.abs(up), (a + 20) * (b + 20), which);
        }

        int parts(int l, int m, int what) {
            if (!isLaw(l) || !isLaw(m)) return UNKNOWN;
            if (what < 0 || what > 1) return OUTSIDE;
            if (ones.size() < 2) return STATE;
            int whose = 0, whom = 1;
            for (int y = 0; y < ones.size(); y++) {
                for (int x = 0; x < ones.size(); x++) {
                    if (x != y && film(l, m, y, x, 0) * film(l, m, whose, whom, 1)
                        > film(l, m, whose, whom, 0) * film(l, m, y, x, 1)) {
                        whose = y;
                        whom = x;
                    }
                }
            }
            return what == 0 ? whose : whom;
        }

        // ---- sheets, parts

        int cut(int ln, int v) {
            return ln == 0 ? (byte) v : ln == 1 ? (short) v : v;
        }

        int sheet(int k, int ln, int n) {
            fault = 0;
            if (k < 0 || k > 3) return UNKNOWN;
            if (ln < 0 || ln > 2 || n > 60) return OUTSIDE;
            if (n < 0) return fail(4);
            sheet[k] = new int[n];
            lane[k] = ln;
            return 1;
        }

        int lose(int k) {
            if (k < 0 || k > 3) return UNKNOWN;
            int had = sheet[k] == null ? 0 : 1;
            sheet[k] = null;
            return had;
        }

        int put(int k, int i, int v) {
            fault = 0;
            if (k < 0 || k > 3) return UNKNOWN;
            if (sheet[k] == null) return fail(1);
            if (i < 0 || i >= sheet[k].length) return fail(3);
            sheet[k][i] = cut(lane[k], v);
            return 1;
        }

        long cell(int k, int i, int ln) {
            fault = 0;
            if (k < 0 || k > 3 || ln < 0 || ln > 2) return LOST;
            if (sheet[k] != null && lane[k] != ln) fault = 2;
            else if (sheet[k] == null) fault = 1;
            else if (i < 0 || i >= sheet[k].length) fault = 3;
            return fault == 0 ? sheet[k][i] : LOST;
        }

        int copy(int k, int i, int other, int j, int n) {
            fault = 0;
            if (k < 0 || k > 3 || other < 0 || other > 3) return UNKNOWN;
            if (sheet[k] == null || sheet[other] == null) return fail(1);
            if (lane[k] != lane[other]) return fail(2);
            if (i < 0 || j < 0 || n < 0) return fail(3);
            if ((long) i + n > sheet[k].length || (long) j + n > sheet[other].length) return fail(3);
            int[] as = sheet[k].clone();
            for (int p = 0; p < n; p++) sheet[other][j + p] = as[i + p];
            return n;
        }

        void leave(int n) {
            trace = trace * 31 + n;
        }

        int tell(int x) {
            if (!isOne(x)) return UNKNOWN;
            int kind = ones.get(x)[0], tired = 9 - ones.get(x)[2];
            int[][] marks = {{1}, {2, 1}, {3, 2, 1, 1}};
            for (int n : marks[kind]) leave(n);
            return kind == 0 ? tired : kind == 1 ? tired + 100 : tired + 100 + tired;
        }

        int wake(int x) {
            if (!isOne(x)) return UNKNOWN;
            leave(ones.get(x)[0] == 2 ? 5 : 4);
            return ones.get(x)[0] == 2 ? 80 : x;
        }

        int as(int x, int kind) {
            fault = 0;
            if (!isOne(x)) return UNKNOWN;
            if (kind < 0 || kind > 2) return OUTSIDE;
            return ones.get(x)[0] < kind ? fail(2) : 1;
        }

        int many(int what) {
            int blinds = 0;
            for (boolean[] b : blind) for (boolean has : b) blinds += has ? 1 : 0;
            int[] all = {faces.length(), ones.size(), laws.size(), yawns.size(), blinds / 2};
            return what < 0 || what > 4 ? OUTSIDE : all[what];
        }
    }

    // ---- the draws

    private static long seed;

    private static int draw(int n) {
        seed = seed * 6364136223846793005L + 1442695040888963407L;
        return (int) Math.floorMod(seed >>> 33, (long) n);
    }

    private static final int[] WILD = {Integer.MIN_VALUE, Integer.MIN_VALUE + 1, -101, -10, -9, -2, -1, 0, 1, 2, 3,
        4, 5, 6, 7, 9, 10, 12, 24, 31, 32, 33, 60, 61, 64, 599, 600, 999, 1000, Integer.MAX_VALUE - 1,
        Integer.MAX_VALUE};

    /** A number below n, now and then a wild one. */
    private static int some(int n) {
        return draw(24) == 0 ? WILD[draw(WILD.length)] : draw(Math.max(n, 1));
    }

    private static int wrong;
    private static long calls;
    private static int spent;
    private static YawnTrain train;
    private static Model model;
    private static StringBuilder run;

    private static void same(String call, long got, long want) {
        calls++;
        spent++;
        run.append(call).append(" -> ").append(got).append('\n');
        if (got != want) {
            wrong++;
            if (wrong <= 5) {
                String told = run.toString();
                System.out.println("..." + told.substring(Math.max(0, told.length() - 6000)));
                System.out.println(call + " answered " + got + ", due is " + want);
            }
        }
    }

    /** Puts a text onto a sheet; now and then one code of it goes wrong. */
    private static void write(int k, int lane, int gap, String text) {
        int spare = draw(3) == 0 ? draw(3) : 0;
        int n = Math.min(60, gap + text.length() + spare);
        same("sheet " + k + " " + lane + " " + n, train.sheet(k, lane, n), model.sheet(k, lane, n));
        for (int p = 0; p < text.length(); p++) {
            train.put(k, gap + p, text.charAt(p));
            spent++;
            model.put(k, gap + p, text.charAt(p));
        }
        run.append("  text ").append(text).append(" from ").append(gap).append('\n');
    }

    private static String spoil(String text) {
        if (draw(6) != 0) return text;
        String codes = "cm;fblroseky t0123456789x";
        int at = draw(text.length() + 1);
        String one = String.valueOf(codes.charAt(draw(codes.length())));
        switch (draw(3)) {
            case 0: return text.substring(0, at);
            case 1: return text.substring(0, at) + one + text.substring(at);
            default: return at < text.length() ? text.substring(0, at) + one + text.substring(at + 1) : text + one;
        }
    }

    private static String carriageText(int style) {
        int l = style == 0 ? 1 + draw(8) : 1 + draw(4), w = style == 0 ? 1 + draw(4) : 1 + draw(3);
        if (style == 2) {
            l = 8;
            w = 4;
        }
        StringBuilder b = new StringBuilder("c").append(l).append(w).append(draw(2) == 0 ? "m" : "").append(';');
        for (int c = 0; c < l * w; c++) b.append("ffbblr".charAt(draw(6)));
        return b.toString();
    }

    private static String lawText() {
        String letters = "osekyft";
        StringBuilder b = new StringBuilder();
        int items = 1 + draw(7);
        for (int t = 0; t < items; t++) {
            int at = draw(letters.length());
            char letter = letters.charAt(at);
            letters = letters.substring(0, at) + letters.substring(at + 1);
            int least = letter == 'k' || letter == 'f' || letter == 't' ? 1 : 0;
            int digit = letter == 'o' && draw(2) == 0 ? 0 : least + draw(10 - least);
            b.append(t == 0 ? "" : ";").append(letter).append(digit);
        }
        return b.toString();
    }

    private static void makeCarriage(int style) {
        int k = draw(4), lane = draw(3), gap = draw(2) * draw(4);
        String text = spoil(carriageText(style));
        write(k, lane, gap, text);
        int n = Math.min(text.length(), 60 - gap);
        same("carriage " + k + " " + lane + " " + gap + " " + n, train.carriage(k, lane, gap, n), model.carriage(k, lane, gap, n));
    }

    private static void makeLaw() {
        int k = draw(4), lane = draw(3), gap = draw(2) * draw(4);
        String text = spoil(lawText());
        write(k, lane, gap, text);
        same("law " + k + " " + lane + " " + gap + " " + text.length(),
            train.law(k, lane, gap, text.length()), model.law(k, lane, gap, text.length()));
    }

    private static void makeNight() {
        int k = draw(4), lane = draw(3), n = draw(61), l = some(model.laws.size());
        same("sheet", train.sheet(k, lane, n), model.sheet(k, lane, n));
        for (int p = 0; p < n; p++) {
            int v = draw(40) == 0 ? WILD[draw(WILD.length)] : draw(2) == 0 ? draw(128) : 20 + draw(900);
            if (lane == 0 && v > 127) v = 127;
            train.put(k, p, v);
            spent++;
            model.put(k, p, v);
        }
        int i = draw(3) == 0 ? some(n + 1) : 0;
        int m = draw(5) == 0 ? some(61) : n - i;
        same("night " + l + " " + k + " " + lane + " " + i + " " + m, train.night(l, k, lane, i, m), model.night(l, k, lane, i, m));
    }

    private static void callSeats() {
        int c = some(model.faces.length()), d = some(model.faces.length()), what = some(3);
        if (draw(2) == 0) d = draw(2) == 0 ? c + 1 : c + model.cols;
        boolean has = draw(4) != 0;
        switch (draw(4)) {
            case 0: same("ofSeat " + c + " " + what, train.ofSeat(c, what), model.ofSeat(c, what)); break;
            case 1: same("line " + c + " " + d, train.line(c, d), model.line(c, d)); break;
            default: same("blind " + c + " " + d + " " + has, train.blind(c, d, has), model.blind(c, d, has)); break;
        }
    }

    private static void callOnes() {
        int c = some(model.faces.length()), x = some(model.ones.size());
        switch (draw(3)) {
            case 0: {
                int kind = some(3), slept = some(10), kin = some(3);
                same("one " + kind + " " + c + " " + slept + " " + kin, train.one(kind, c, slept, kin), model.one(kind, c, slept, kin));
                break;
            }
            case 1: {
                int what = some(6);
                same("ofOne " + x + " " + what, train.ofOne(x, what), model.ofOne(x, what));
                break;
            }
            default: same("move " + x + " " + c, train.move(x, c), model.move(x, c)); break;
        }
    }

    private static void callYawns() {
        int x = some(model.ones.size());
        int last = model.yawns.isEmpty() ? 0 : model.last();
        int minute = draw(8) == 0 ? some(600) : last + draw(4) * draw(3);
        switch (draw(8)) {
            case 0: {
                int j = some(model.yawns.size()), what = some(2);
                same("ofYawn " + j + " " + what, train.ofYawn(j, what), model.ofYawn(j, what));
                break;
            }
            case 1: {
                int k = draw(3) == 0 ? some(25) : draw(3);
                same("back " + k, train.back(k), model.back(k));
                break;
            }
            default: same("yawn " + minute + " " + x, train.yawn(minute, x), model.yawn(minute, x)); break;
        }
    }

    private static void callLaws() {
        int l = some(model.laws.size()), x = some(model.ones.size()), y = draw(4) == 0 ? NONE : some(model.ones.size());
        int j = some(model.yawns.size()), i = draw(4) == 0 ? NONE : some(model.yawns.size()), what = some(3);
        switch (draw(12)) {
            case 0: {
                int number = some(7);
                same("ofLaw " + l + " " + number, train.ofLaw(l, number), model.ofLaw(l, number));
                break;
            }
            case 1: same("might " + l + " " + x + " " + y, train.might(l, x, y), model.might(l, x, y)); break;
            case 2: same("could " + l + " " + j, train.could(l, j), model.could(l, j)); break;
            case 3: {
                int which = some(2);
                same("share " + l + " " + j + " " + i + " " + which, train.share(l, j, i, which), model.share(l, j, i, which));
                break;
            }
            case 4: same("barred " + l, train.barred(l), model.barred(l)); break;
            case 5: same("trees " + l, train.trees(l), model.trees(l)); break;
            case 6: same("causes " + l + " " + x, train.causes(l, x), model.causes(l, x)); break;
            case 7: same("most " + l, train.most(l), model.most(l)); break;
            case 8: same("goesOn " + l, train.goesOn(l), model.goesOn(l)); break;
            case 9: same("chain " + l, train.chain(l), model.chain(l)); break;
            default: same("missed " + l + " " + what, train.missed(l, what), model.missed(l, what)); break;
        }
    }

    private static void callPlans(int style) {
        int l = some(model.laws.size()), m = some(model.laws.size()), x = some(model.ones.size()), y = some(model.ones.size());
        int which = some(2);
        switch (draw(style == 2 ? 30 : 4)) {
            case 0: {
                int k = draw(24) == 0 ? some(4) : 1 + draw(3), q = draw(24) == 0 ? some(4) : draw(4) - 1;
                same("blinds " + l + " " + k + " " + q, train.blinds(l, k, q), model.blinds(l, k, q));
                break;
            }
            case 1: same("parts " + l + " " + m + " " + which, train.parts(l, m, which), model.parts(l, m, which)); break;
            case 2: same("film " + l + " " + m + " " + y + " " + x + " " + which,
                train.film(l, m, y, x, which), model.film(l, m, y, x, which)); break;
            default: same("spread " + l, train.spread(l), model.spread(l)); break;
        }
    }

    private static void callSheets() {
        int k = some(4), lane = some(3), i = some(8), other = some(4), j = some(8), n = draw(3) == 0 ? some(61) : some(8);
        int v = draw(2) == 0 ? draw(1 << 20) * 4096 - draw(1 << 30) : some(300);
        switch (draw(8)) {
            case 0: same("sheet " + k + " " + lane + " " + n, train.sheet(k, lane, n), model.sheet(k, lane, n)); break;
            case 1: same("lose " + k, train.lose(k), model.lose(k)); break;
            case 2: same("put " + k + " " + i + " " + v, train.put(k, i, v), model.put(k, i, v)); break;
            case 3: same("copy " + k + " " + i + " " + other + " " + j + " " + n,
                train.copy(k, i, other, j, n), model.copy(k, i, other, j, n)); break;
            case 4: same("carriage " + k + " " + lane + " " + i + " " + n, train.carriage(k, lane, i, n), model.carriage(k, lane, i, n)); break;
            case 5: same("law " + k + " " + lane + " " + i + " " + n, train.law(k, lane, i, n), model.law(k, lane, i, n)); break;
            case 6: same("night 0 " + k + " " + lane + " " + i + " " + n, train.night(0, k, lane, i, n), model.night(0, k, lane, i, n)); break;
            default: same("cell " + k + " " + i + " " + lane, train.cell(k, i, lane), model.cell(k, i, lane)); break;
        }
    }

    private static void callParts() {
        int x = some(model.ones.size()), kind = some(3), what = some(5);
        switch (draw(4)) {
            case 0: same("tell " + x, train.tell(x), model.tell(x)); break;
            case 1: same("wake " + x, train.wake(x), model.wake(x)); break;
            case 2: same("as " + x + " " + kind, train.as(x, kind), model.as(x, kind)); break;
            default: same("many " + what, train.many(what), model.many(what)); break;
        }
    }

    private static void callOne(int style) {
        switch (draw(style == 2 ? 32 : 20)) {
            case 0: if (draw(16) == 0) makeCarriage(style); break;
            case 1: if (draw(3) == 0) makeLaw(); break;
            case 2: if (draw(3) == 0) makeNight(); break;
            case 3: case 4: callSeats(); break;
            case 5: case 6: callOnes(); break;
            case 7: case 8: case 9: callYawns(); break;
            case 10: case 11: case 12: case 13: callLaws(); break;
            case 14: callPlans(style); break;
            case 15: callSheets(); break;
            default: callParts(); break;
        }
        same("fault", train.fault(), model.fault);
        same("trace", train.trace(), model.trace);
    }

    private static void begin(int style) {
        boolean filled = draw(8) != 0;
        for (int t = 0; t < (filled ? 4 : draw(2)) && model.faces.isEmpty(); t++) makeCarriage(style);
        int laws = filled ? 1 + draw(3) : draw(3);
        for (int t = 0; t < laws; t++) makeLaw();
        int ones = style == 2 ? 20 : filled ? 2 + draw(14) : draw(5);
        for (int t = 0; t < ones; t++) {
            int kind = draw(5) % 3, c = some(model.faces.length()), slept = draw(10), kin = draw(3);
            same("one " + kind + " " + c + " " + slept + " " + kin, train.one(kind, c, slept, kin), model.one(kind, c, slept, kin));
        }
        int minute = draw(600) * (draw(3) / 2), yawns = draw(filled ? 16 : 3);
        for (int t = 0; t < yawns; t++) {
            int x = some(model.ones.size());
            minute += draw(4) * draw(2);
            same("yawn " + minute + " " + x, train.yawn(minute, x), model.yawn(minute, x));
        }
    }

    /** A run stays within the document's 512 calls: the dearest step, a NIGHT's 60 draws, takes fewer than 70. */
    private static void runOnce(int number) {
        seed = number * 1000003L + 17;
        for (int t = 0; t < 5; t++) draw(2);
        train = new YawnTrain();
        model = new Model();
        run = new StringBuilder("run " + number + "\n");
        int style = number % 40 == 0 ? 2 : number % 4 == 1 ? 0 : 1;
        spent = 0;
        begin(style);
        while (spent < 440) callOne(style);
        if (spent > 512) throw new IllegalStateException("run " + number + " makes " + spent + " calls");
    }

    public static void main(String[] args) {
        int runs = args.length > 0 ? Integer.parseInt(args[0]) : 2500;
        for (int number = 0; number < runs && wrong < 20; number++) {
            runOnce(number);
        }
        System.out.println(calls + " answers of drawn calls" + (wrong == 0 ? " are as the model's" : ", wrong: " + wrong));
        if (wrong != 0) System.exit(1);
    }
}
