/** A night train's carriage: who yawns, and from whom each yawn could have been caught. */
public final class YawnTrain {
    public static final int UNKNOWN = -1, OUTSIDE = -2, STATE = -3, FULL = -4, NONE = -9;
    public static final long LOST = Long.MIN_VALUE;

    private static final int NULL = 1, CAST = 2, INDEX = 3, SIZE = 4;
    private static final int MOST_SHEETS = 4, MOST_CELLS = 60;
    private static final int MOST_SEATS = 32, MOST_GAPS = 52, GAP_NUMBERS = 64;
    private static final int SEATS_0_TO_30 = 0x7fffffff;
    private static final int MOST_ONES = 12, MOST_LAWS = 6, MOST_YAWNS = 24, MOST_BLINDS = 3;
    private static final int LAST_MINUTE = 599, LAST_DRAW = 999;
    private static final int OWN = 0, SIGHT = 1, EAR = 2, KIN = 3, YOUNG = 4, FROM = 5, TILL = 6;
    private static final int NUMBERS = 7;
    private static final int FRONT = 0, BACK = 1, LEFT = 2, RIGHT = 3;
    private static final int MILLION = 1000000, TREES_MODULO = 1000000007;
    private static final int FILM_STAYS_AWAKE = 20;

    private final Sheet[] sheets = new Sheet[MOST_SHEETS];
    private final CarriageText carriageText = new CarriageText();
    private final LawText lawText = new LawText();
    private final Carriage train = new Carriage();
    private final Person[] people = new Person[MOST_ONES];
    private final Law[] laws = new Law[MOST_LAWS];
    private final Yawns row = new Yawns();
    private final BlindPlan plan = new BlindPlan();
    private final int[] owns = new int[MOST_ONES];
    private final int[] mights = new int[MOST_ONES * MOST_ONES];
    private final int[] caused = new int[MOST_ONES];
    private final int[] chains = new int[MOST_YAWNS];
    private final boolean[] bare = new boolean[MOST_YAWNS];
    private int ones;
    private int lawCount;
    private int latestFault;
    private int marks;

    public YawnTrain() {
        for (int k = 0; k < sheets.length; k++) {
            sheets[k] = new Sheet();
        }
    }

    // ---- 1 the carriage

    public int carriage(int sheet, int lane, int i, int n) {
        int refusal = refusalOfCells(sheet, lane, i, n);
        if (refusal != 0) {
            return refusal;
        }
        int place = carriageText.firstFault(sheetAt(sheet), i, n);
        if (place >= 0) {
            return -100 - place;
        }
        train.build(carriageText);
        ones = 0;
        row.clear();
        return train.seats;
    }

    public int ofSeat(int c, int what) {
        if (!train.isSeat(c)) {
            return UNKNOWN;
        }
        switch (what) {
            case 0:
                return train.faceOf(c);
            case 1:
                return train.sitterOf(c);
            case 2:
                // SEAT 31 would be the sign: the set is told of SEATS 0 .. 30.
                return train.lineOf(c) & SEATS_0_TO_30;
            default:
                return OUTSIDE;
        }
    }

    public int line(int c, int d) {
        if (!train.isSeat(c) || !train.isSeat(d)) {
            return UNKNOWN;
        }
        return train.isOnLine(c, d) ? 1 : 0;
    }

    public int blind(int c, int d, boolean has) {
        if (!train.isSeat(c) || !train.isSeat(d)) {
            return UNKNOWN;
        }
        int gap = train.gapBetween(c, d);
        if (gap < 0) {
            return OUTSIDE;
        }
        return train.setBlind(gap, has) ? 1 : 0;
    }

    // ---- 2 ones, laws

    public int one(int kind, int c, int slept, int kin) {
        if (!train.isSeat(c)) {
            return UNKNOWN;
        }
        if (!isKind(kind) || !isDigit(slept) || !isDigit(kin)) {
            return OUTSIDE;
        }
        if (train.sitterOf(c) != NONE) {
            return STATE;
        }
        int number = ones;
        if (number < 0 || number >= people.length) {
            return FULL;
        }
        Person person = newcomer(kind, number, slept, kin);
        person.seat = c;
        people[number] = person;
        train.seatOne(c, number);
        ones = number + 1;
        return number;
    }

    public int ofOne(int x, int what) {
        Person person = personAt(x);
        if (person == null) {
            return UNKNOWN;
        }
        switch (what) {
            case 0:
                return person.kind();
            case 1:
                return person.seat;
            case 2:
                return person.slept;
            case 3:
                return person.kin;
            case 4:
                return seenBy(person);
            case 5:
                return heardBy(person);
            default:
                return OUTSIDE;
        }
    }

    public int move(int x, int c) {
        Person person = personAt(x);
        if (person == null || !train.isSeat(c)) {
            return UNKNOWN;
        }
        if (train.sitterOf(c) != NONE) {
            return STATE;
        }
        int before = person.seat;
        train.seatOne(before, NONE);
        train.seatOne(c, x);
        person.seat = c;
        return before;
    }

    public int law(int sheet, int lane, int i, int n) {
        int refusal = refusalOfCells(sheet, lane, i, n);
        if (refusal != 0) {
            return refusal;
        }
        int place = lawText.firstFault(sheetAt(sheet), i, n);
        if (place >= 0) {
            return -100 - place;
        }
        int number = lawCount;
        if (number < 0 || number >= laws.length) {
            return FULL;
        }
        laws[number] = new Law(lawText);
        lawCount = number + 1;
        return number;
    }

    public int ofLaw(int l, int what) {
        Law law = lawAt(l);
        if (law == null || what < 0 || what >= NUMBERS) {
            return UNKNOWN;
        }
        return law.number(what);
    }

    public int might(int l, int x, int y) {
        Law law = lawAt(l);
        Person taker = personAt(x);
        if (law == null || taker == null) {
            return UNKNOWN;
        }
        if (y == NONE) {
            return ownMight(law, taker);
        }
        Person giver = personAt(y);
        if (giver == null) {
            return UNKNOWN;
        }
        return x == y ? OUTSIDE : catchMight(law, taker, giver);
    }

    // ---- 3 yawns

    public int yawn(int minute, int x) {
        if (personAt(x) == null) {
            return UNKNOWN;
        }
        if (minute < 0 || minute > LAST_MINUTE) {
            return OUTSIDE;
        }
        if (row.count > 0 && minute < row.lastMinute()) {
            return STATE;
        }
        if (row.isFull()) {
            return FULL;
        }
        row.add(minute, x);
        return row.count - 1;
    }

    public int ofYawn(int j, int what) {
        if (!row.has(j)) {
            return UNKNOWN;
        }
        switch (what) {
            case 0:
                return row.minuteOf(j);
            case 1:
                return row.whoOf(j);
            default:
                return OUTSIDE;
        }
    }

    public int back(int k) {
        if (k < 0 || k > row.count) {
            return OUTSIDE;
        }
        row.count -= k;
        return row.count;
    }

    public int could(int l, int j) {
        Law law = weighedLaw(l);
        if (law == null || !row.has(j)) {
            return UNKNOWN;
        }
        int set = 0;
        for (int i = 0; i < row.count; i++) {
            if (sourceMight(law, j, i) > 0) {
                set |= 1 << i;
            }
        }
        return set;
    }

    public long share(int l, int j, int i, int which) {
        Law law = weighedLaw(l);
        if (law == null || !row.has(j) || i != NONE && !row.has(i)) {
            return LOST;
        }
        if (which != 0 && which != 1) {
            return LOST;
        }
        int whole = wholeMight(law, j);
        if (whole <= 0) {
            return LOST;
        }
        int part = i == NONE ? weighedOwn(row.whoOf(j)) : sourceMight(law, j, i);
        return leastTerm(part, whole, which);
    }

    public int barred(int l) {
        Law law = weighedLaw(l);
        return law == null ? UNKNOWN : firstBare(law);
    }

    public int trees(int l) {
        Law law = weighedLaw(l);
        if (law == null) {
            return UNKNOWN;
        }
        long product = 1;
        for (int j = 0; j < row.count; j++) {
            product = product * sourceCount(law, j) % TREES_MODULO;
        }
        return (int) product;
    }

    public int causes(int l, int x) {
        Law law = weighedLaw(l);
        if (law == null || personAt(x) == null) {
            return UNKNOWN;
        }
        return sumCauses(law) ? causedBy(x) : STATE;
    }

    public int most(int l) {
        Law law = weighedLaw(l);
        if (law == null) {
            return UNKNOWN;
        }
        if (!sumCauses(law)) {
            return STATE;
        }
        int best = NONE;
        for (int x = 0; x < ones; x++) {
            if (best == NONE || causedBy(x) > causedBy(best)) {
                best = x;
            }
        }
        return best;
    }

    public int goesOn(int l) {
        Law law = weighedLaw(l);
        if (law == null) {
            return UNKNOWN;
        }
        if (!sumCauses(law)) {
            return STATE;
        }
        for (int x = 0; x < ones; x++) {
            if (causedBy(x) > MILLION * row.howOften(x)) {
                return 1;
            }
        }
        return 0;
    }

    public int chain(int l) {
        Law law = weighedLaw(l);
        if (law == null) {
            return UNKNOWN;
        }
        int longest = 0;
        for (int j = 0; j < row.count && j < chains.length; j++) {
            int ahead = 0;
            for (int i = 0; i < j; i++) {
                if (chains[i] > ahead && sourceMight(law, j, i) > 0) {
                    ahead = chains[i];
                }
            }
            chains[j] = ahead + 1;
            longest = Math.max(longest, chains[j]);
        }
        return longest;
    }

    public int missed(int l, int what) {
        Law law = weighedLaw(l);
        if (law == null) {
            return UNKNOWN;
        }
        if (what < 0 || what > 2) {
            return OUTSIDE;
        }
        int first = markBare(law);
        if (first == NONE) {
            return STATE;
        }
        return findMissed(law, row.minuteOf(first), what);
    }

    // ---- 4 nights, blinds, films

    public int night(int l, int sheet, int lane, int i, int n) {
        latestFault = 0;
        Law law = weighedLaw(l);
        if (law == null) {
            return UNKNOWN;
        }
        int refusal = refusalOfCells(sheet, lane, i, n);
        if (refusal != 0) {
            return refusal;
        }
        Sheet draws = sheetAt(sheet);
        // Without ONES there is no whole minute, so no draw is looked at.
        if (draws == null || ones <= 0) {
            return STATE;
        }
        int minutes = n / ones;
        if (!areDraws(draws, i, minutes * ones)) {
            return OUTSIDE;
        }
        return goOn(law, draws, i, minutes);
    }

    public int spread(int l) {
        Law law = weighedLaw(l);
        return law == null ? UNKNOWN : weighedSpread();
    }

    public int blinds(int l, int k, int q) {
        Law law = weighedLaw(l);
        if (law == null) {
            return UNKNOWN;
        }
        if (k < 1 || k > MOST_BLINDS) {
            return OUTSIDE;
        }
        if (q < -1 || q > 2) {
            return UNKNOWN;
        }
        plan.begin(train);
        if (plan.free == 0) {
            return STATE;
        }
        fillPlan(law);
        plan.search(Math.min(k, plan.free));
        return q == -1 ? weighedSpread() - plan.saved : plan.chosenGap(train, q);
    }

    public int parts(int l, int m, int what) {
        Law first = lawAt(l);
        Law second = lawAt(m);
        if (first == null || second == null) {
            return UNKNOWN;
        }
        if (what != 0 && what != 1) {
            return OUTSIDE;
        }
        return ones < 2 ? STATE : mostParting(first, second, what);
    }

    public long film(int l, int m, int y, int x, int which) {
        Law first = lawAt(l);
        Law second = lawAt(m);
        Person shown = personAt(y);
        Person viewer = personAt(x);
        if (first == null || second == null || shown == null || viewer == null) {
            return LOST;
        }
        if (x == y || which != 0 && which != 1) {
            return LOST;
        }
        int a = filmMight(first, viewer, shown);
        int b = filmMight(second, viewer, shown);
        return leastTerm(oddsUpper(a, b), oddsLower(a, b), which);
    }

    // ---- 5 sheets, parts

    public int sheet(int k, int lane, int n) {
        latestFault = 0;
        Sheet sheet = sheetAt(k);
        if (sheet == null) {
            return UNKNOWN;
        }
        if (!isLane(lane) || n > MOST_CELLS) {
            return OUTSIDE;
        }
        if (n < 0) {
            return faulted(SIZE);
        }
        sheet.renew(lane, n);
        return 1;
    }

    public int lose(int k) {
        Sheet sheet = sheetAt(k);
        if (sheet == null) {
            return UNKNOWN;
        }
        int had = sheet.hasRow ? 1 : 0;
        sheet.hasRow = false;
        return had;
    }

    public int put(int k, int i, int v) {
        latestFault = 0;
        Sheet sheet = sheetAt(k);
        if (sheet == null) {
            return UNKNOWN;
        }
        if (!sheet.hasRow) {
            return faulted(NULL);
        }
        if (!sheet.hasCell(i)) {
            return faulted(INDEX);
        }
        sheet.write(i, v);
        return 1;
    }

    public long cell(int k, int i, int lane) {
        latestFault = 0;
        Sheet sheet = sheetAt(k);
        if (sheet == null || !isLane(lane)) {
            return LOST;
        }
        latestFault = sheet.faultAs(lane);
        if (latestFault == 0 && !sheet.hasCell(i)) {
            latestFault = INDEX;
        }
        return latestFault == 0 ? sheet.read(i) : LOST;
    }

    public int copy(int k, int i, int other, int j, int n) {
        latestFault = 0;
        Sheet source = sheetAt(k);
        Sheet target = sheetAt(other);
        if (source == null || target == null) {
            return UNKNOWN;
        }
        if (!source.hasRow || !target.hasRow) {
            return faulted(NULL);
        }
        if (source.lane != target.lane) {
            return faulted(CAST);
        }
        if (!source.hasCells(i, n) || !target.hasCells(j, n)) {
            return faulted(INDEX);
        }
        source.copyTo(i, target, j, n);
        return n;
    }

    public int tell(int x) {
        Person person = personAt(x);
        return person == null ? UNKNOWN : person.tells(this);
    }

    public int wake(int x) {
        Person person = personAt(x);
        return person == null ? UNKNOWN : person.wakes(this);
    }

    public int as(int x, int kind) {
        latestFault = 0;
        Person person = personAt(x);
        if (person == null) {
            return UNKNOWN;
        }
        if (!isKind(kind)) {
            return OUTSIDE;
        }
        // A kind of a greater number is one of each lesser kind, too.
        return person.kind() < kind ? faulted(CAST) : 1;
    }

    public int trace() {
        return marks;
    }

    public int fault() {
        return latestFault;
    }

    public int many(int what) {
        switch (what) {
            case 0:
                return train.seats;
            case 1:
                return ones;
            case 2:
                return lawCount;
            case 3:
                return row.count;
            case 4:
                return train.blindCount;
            default:
                return OUTSIDE;
        }
    }

    // ---- what numbers stand for

    private Sheet sheetAt(int k) {
        return k >= 0 && k < sheets.length ? sheets[k] : null;
    }

    private Person personAt(int x) {
        return x >= 0 && x < ones && x < people.length ? people[x] : null;
    }

    private Law lawAt(int l) {
        return l >= 0 && l < lawCount && l < laws.length ? laws[l] : null;
    }

    private static boolean isLane(int lane) {
        return lane >= 0 && lane <= 2;
    }

    private static boolean isKind(int kind) {
        return kind >= 0 && kind <= 2;
    }

    private static boolean isDigit(int v) {
        return v >= 0 && v <= 9;
    }

    private void leave(int number) {
        marks = 31 * marks + number;
    }

    private int faulted(int number) {
        latestFault = number;
        return -10 - number;
    }

    /** The answer that refuses cells of a SHEET taken as a row of a LANE; 0, if they may be taken. */
    private int refusalOfCells(int k, int lane, int i, int n) {
        latestFault = 0;
        Sheet sheet = sheetAt(k);
        if (sheet == null) {
            return UNKNOWN;
        }
        if (!isLane(lane)) {
            return OUTSIDE;
        }
        int number = sheet.faultAs(lane);
        if (number != 0) {
            return faulted(number);
        }
        if (n < 0) {
            return faulted(SIZE);
        }
        return sheet.hasCells(i, n) ? 0 : faulted(INDEX);
    }

    // ---- ones and what they catch

    private static Person newcomer(int kind, int number, int slept, int kin) {
        if (kind == 0) {
            return new Person(number, slept, kin);
        }
        return kind == 1 ? new Child(number, slept, kin) : new Dog(number, slept, kin);
    }

    private boolean sees(Person looker, Person other) {
        return looker != other && train.isOnLine(looker.seat, other.seat);
    }

    private boolean hears(Person listener, Person other) {
        return train.gapBetween(listener.seat, other.seat) >= 0;
    }

    private int seenBy(Person looker) {
        int set = 0;
        for (int y = 0; y < ones; y++) {
            Person other = personAt(y);
            if (other != null && sees(looker, other)) {
                set |= 1 << y;
            }
        }
        return set;
    }

    private int heardBy(Person listener) {
        int set = 0;
        for (int y = 0; y < ones; y++) {
            Person other = personAt(y);
            if (other != null && hears(listener, other)) {
                set |= 1 << y;
            }
        }
        return set;
    }

    private int ownMight(Law law, Person person) {
        return person == null ? 0 : person.takesOwn(law, law.number(OWN) * (person.tired() + 1));
    }

    private int catchMight(Law law, Person taker, Person giver) {
        int strength = sees(taker, giver) ? law.number(SIGHT) : unseenStrength(law, taker, giver);
        return takenMight(law, taker, giver, strength);
    }

    private int unseenStrength(Law law, Person taker, Person giver) {
        return hears(taker, giver) ? law.number(EAR) : 0;
    }

    private static int filmMight(Law law, Person taker, Person giver) {
        return takenMight(law, taker, giver, law.number(SIGHT));
    }

    private static int takenMight(Law law, Person taker, Person giver, int strength) {
        boolean sameKin = taker.kin == giver.kin;
        return taker.takes(law, sameKin ? strength * law.number(KIN) : strength, sameKin);
    }

    // ---- sources of yawns

    /** A LAW, with its MIGHTS in their rows for what is asked of many YAWNS; null, if there is none. */
    private Law weighedLaw(int l) {
        Law law = lawAt(l);
        if (law == null) {
            return null;
        }
        for (int x = 0; x < ones && x < owns.length; x++) {
            Person taker = personAt(x);
            owns[x] = ownMight(law, taker);
            for (int y = 0; y < ones; y++) {
                Person giver = personAt(y);
                int place = x * MOST_ONES + y;
                if (taker != null && giver != null && place < mights.length) {
                    mights[place] = x == y ? 0 : catchMight(law, taker, giver);
                }
            }
        }
        return law;
    }

    private int weighedOwn(int x) {
        return x >= 0 && x < owns.length ? owns[x] : 0;
    }

    private int weighed(int x, int y) {
        int place = x * MOST_ONES + y;
        return place >= 0 && place < mights.length ? mights[place] : 0;
    }

    /** MIGHT of one who yawns at a minute to have it from YAWN i; 0, if that is no source of it. */
    private int mightFromYawn(Law law, int x, int minute, int i) {
        int delay = minute - row.minuteOf(i);
        return law.allows(delay) ? weighed(x, row.whoOf(i)) : 0;
    }

    private int sourceMight(Law law, int j, int i) {
        return mightFromYawn(law, row.whoOf(j), row.minuteOf(j), i);
    }

    /** MIGHT of all sources of one who yawns at a minute, together. */
    private int mightAt(Law law, int x, int minute) {
        int sum = weighedOwn(x);
        for (int i = 0; i < row.count; i++) {
            sum += mightFromYawn(law, x, minute, i);
        }
        return sum;
    }

    private int wholeMight(Law law, int j) {
        return mightAt(law, row.whoOf(j), row.minuteOf(j));
    }

    private int sourceCount(Law law, int j) {
        int number = weighedOwn(row.whoOf(j)) > 0 ? 1 : 0;
        for (int i = 0; i < row.count; i++) {
            if (sourceMight(law, j, i) > 0) {
                number++;
            }
        }
        return number;
    }

    private int firstBare(Law law) {
        for (int j = 0; j < row.count; j++) {
            if (wholeMight(law, j) <= 0) {
                return j;
            }
        }
        return NONE;
    }

    /** CAUSES of all into their row; false, if some YAWN has no source. */
    private boolean sumCauses(Law law) {
        for (int x = 0; x < caused.length; x++) {
            caused[x] = 0;
        }
        for (int j = 0; j < row.count; j++) {
            int whole = wholeMight(law, j);
            if (whole <= 0) {
                return false;
            }
            for (int i = 0; i < row.count; i++) {
                addCause(row.whoOf(i), MILLION * sourceMight(law, j, i) / whole);
            }
        }
        return true;
    }

    private void addCause(int x, int millionths) {
        if (x >= 0 && x < caused.length) {
            caused[x] += millionths;
        }
    }

    private int causedBy(int x) {
        return x >= 0 && x < caused.length ? caused[x] : 0;
    }

    // ---- the yawn missed

    /** Marks the YAWNS without a source: the first of them, or NONE. */
    private int markBare(Law law) {
        int first = NONE;
        for (int j = 0; j < row.count && j < bare.length; j++) {
            bare[j] = wholeMight(law, j) <= 0;
            if (bare[j] && first == NONE) {
                first = j;
            }
        }
        return first;
    }

    private int findMissed(Law law, int barredMinute, int what) {
        int number = 0;
        int firstMinute = NONE;
        int firstWho = NONE;
        // Only minutes from which the first YAWN without a source could come can mend it.
        int last = barredMinute - law.number(FROM);
        for (int minute = Math.max(0, barredMinute - law.number(TILL)); minute <= last; minute++) {
            for (int y = 0; y < ones; y++) {
                if (mends(law, minute, y)) {
                    if (number == 0) {
                        firstMinute = minute;
                        firstWho = y;
                    }
                    number++;
                }
            }
        }
        if (what == 0) {
            return number;
        }
        return what == 1 ? firstMinute : firstWho;
    }

    private boolean mends(Law law, int minute, int y) {
        for (int j = 0; j < row.count && j < bare.length; j++) {
            if (bare[j]) {
                int delay = row.minuteOf(j) - minute;
                if (!law.allows(delay) || weighed(row.whoOf(j), y) <= 0) {
                    return false;
                }
            }
        }
        return true;
    }

    // ---- nights, blinds, films

    private static boolean areDraws(Sheet draws, int from, int number) {
        for (int p = 0; p < number; p++) {
            int draw = draws.read(from + p);
            if (draw < 0 || draw > LAST_DRAW) {
                return false;
            }
        }
        return true;
    }

    private int goOn(Law law, Sheet draws, int from, int minutes) {
        int yawned = 0;
        int place = from;
        int firstMinute = row.count > 0 ? row.lastMinute() + 1 : 1;
        for (int t = 0; t < minutes; t++) {
            for (int x = 0; x < ones; x++) {
                if (yawnsAtDraw(law, draws.read(place), firstMinute + t, x)) {
                    row.add(firstMinute + t, x);
                    yawned++;
                }
                place++;
            }
        }
        return yawned;
    }

    private boolean yawnsAtDraw(Law law, int draw, int minute, int x) {
        return minute <= LAST_MINUTE && !row.isFull() && draw < mightAt(law, x, minute);
    }

    private int weighedSpread() {
        int sum = 0;
        for (int x = 0; x < ones; x++) {
            for (int y = 0; y < ones; y++) {
                sum += weighed(x, y);
            }
        }
        return sum;
    }

    /** Tells the plan what each sight adds to SPREAD, so what its loss takes away. */
    private void fillPlan(Law law) {
        for (int x = 0; x < ones; x++) {
            for (int y = 0; y < ones; y++) {
                Person taker = personAt(x);
                Person giver = personAt(y);
                if (taker != null && giver != null && sees(taker, giver)) {
                    int unseen = takenMight(law, taker, giver, unseenStrength(law, taker, giver));
                    plan.addSight(train, taker.seat, giver.seat, weighed(x, y) - unseen);
                }
            }
        }
    }

    private static int oddsUpper(int a, int b) {
        return FILM_STAYS_AWAKE * Math.abs(a - b);
    }

    private static int oddsLower(int a, int b) {
        return (a + FILM_STAYS_AWAKE) * (b + FILM_STAYS_AWAKE);
    }

    private int mostParting(Law first, Law second, int what) {
        int best = NONE;
        long bestUpper = -1;
        long bestLower = 1;
        for (int y = 0; y < ones; y++) {
            for (int x = 0; x < ones; x++) {
                Person shown = personAt(y);
                Person viewer = personAt(x);
                if (x != y && shown != null && viewer != null) {
                    int a = filmMight(first, viewer, shown);
                    int b = filmMight(second, viewer, shown);
                    if (oddsUpper(a, b) * bestLower > bestUpper * oddsLower(a, b)) {
                        bestUpper = oddsUpper(a, b);
                        bestLower = oddsLower(a, b);
                        best = what == 0 ? y : x;
                    }
                }
            }
        }
        return best;
    }

    /** The upper (0) or lower (1) number of a fraction in least terms. */
    private static long leastTerm(int upper, int lower, int which) {
        int common = commonDivisor(upper, lower);
        if (common <= 0) {
            return LOST;
        }
        return (which == 0 ? upper : lower) / common;
    }

    private static int commonDivisor(int a, int b) {
        int greater = a;
        int lesser = b;
        // Euclid's steps on ints are below fifty.
        for (int step = 0; step < 64 && lesser != 0; step++) {
            int rest = greater % lesser;
            greater = lesser;
            lesser = rest;
        }
        return greater;
    }

    // ---- classes inside

    /** Nothing, or a row of numbers of a LANE; its cells are made once and used for each new row. */
    private static final class Sheet {
        private final int[] cells = new int[MOST_CELLS];
        private boolean hasRow;
        private int lane;
        private int length;

        void renew(int newLane, int newLength) {
            for (int i = 0; i < cells.length; i++) {
                cells[i] = 0;
            }
            hasRow = true;
            lane = newLane;
            length = newLength;
        }

        /** The FAULT of taking it as a row of a LANE: nothing can be taken so, but not be used. */
        int faultAs(int wanted) {
            if (!hasRow) {
                return NULL;
            }
            return lane == wanted ? 0 : CAST;
        }

        boolean hasCell(int i) {
            return i >= 0 && i < length;
        }

        boolean hasCells(int i, int n) {
            return i >= 0 && i <= length && n >= 0 && n <= length - i;
        }

        int read(int i) {
            return i >= 0 && i < cells.length ? cells[i] : 0;
        }

        void write(int i, int v) {
            if (i >= 0 && i < cells.length) {
                cells[i] = cutToLane(v);
            }
        }

        private int cutToLane(int v) {
            if (lane == 0) {
                return (byte) v;
            }
            return lane == 1 ? (short) v : v;
        }

        void copyTo(int i, Sheet target, int j, int n) {
            if (hasCells(i, n) && target.hasCells(j, n)) {
                System.arraycopy(cells, i, target.cells, j, n);
            }
        }
    }

    /** Reads a TEXT code by code. */
    private abstract static class Text {
        abstract void begin();

        /** Whether a TEXT goes on with this code; if so, it is taken. */
        abstract boolean takes(int code);

        abstract boolean isWhole();

        /** The FIRST FAULT of n cells from a place on; NONE, if they are a TEXT. */
        int firstFault(Sheet sheet, int from, int n) {
            begin();
            if (sheet == null) {
                return 0;
            }
            for (int p = 0; p < n; p++) {
                if (!takes(sheet.read(from + p))) {
                    return p;
                }
            }
            return isWhole() ? NONE : Math.max(n, 0);
        }
    }

    private static final class CarriageText extends Text {
        private static final int AT_C = 0, AT_LONG = 1, AT_WIDE = 2, AT_MIRRORS = 3, AT_END = 4, AT_SEATS = 5;

        private final int[] faces = new int[MOST_SEATS];
        private int stage;
        private int rows;
        private int wide;
        private boolean mirrors;
        private int seats;

        void begin() {
            stage = AT_C;
            rows = 0;
            wide = 0;
            mirrors = false;
            seats = 0;
        }

        boolean takes(int code) {
            switch (stage) {
                case AT_C:
                    stage = AT_LONG;
                    return code == 'c';
                case AT_LONG:
                    rows = code - '0';
                    stage = AT_WIDE;
                    return code >= '1' && code <= '8';
                case AT_WIDE:
                    wide = code - '0';
                    stage = AT_MIRRORS;
                    return code >= '1' && code <= '4';
                case AT_MIRRORS:
                    mirrors = code == 'm';
                    stage = mirrors ? AT_END : AT_SEATS;
                    return mirrors || code == ';';
                case AT_END:
                    stage = AT_SEATS;
                    return code == ';';
                default:
                    return takesSeat(faceBy(code));
            }
        }

        private boolean takesSeat(int face) {
            if (face == NONE || seats >= rows * wide || seats < 0 || seats >= faces.length) {
                return false;
            }
            faces[seats] = face;
            seats++;
            return true;
        }

        private static int faceBy(int code) {
            switch (code) {
                case 'f':
                    return FRONT;
                case 'b':
                    return BACK;
                case 'l':
                    return LEFT;
                case 'r':
                    return RIGHT;
                default:
                    return NONE;
            }
        }

        boolean isWhole() {
            return stage == AT_SEATS && seats == rows * wide;
        }

        int faceAt(int c) {
            return c >= 0 && c < faces.length ? faces[c] : FRONT;
        }
    }

    private static final class LawText extends Text {
        private static final int AT_LETTER = 0, AT_DIGIT = 1, AT_NEXT = 2;
        private static final int[] LEAST = {0, 0, 0, 1, 0, 1, 1};
        private static final int[] UNTOLD = {1, 6, 2, 3, 3, 1, 5};

        private final int[] numbers = new int[NUMBERS];
        private final boolean[] told = new boolean[NUMBERS];
        private int stage;
        private int which;
        private int items;

        void begin() {
            stage = AT_LETTER;
            which = 0;
            items = 0;
            for (int k = 0; k < NUMBERS && k < numbers.length && k < told.length && k < UNTOLD.length; k++) {
                numbers[k] = UNTOLD[k];
                told[k] = false;
            }
        }

        boolean takes(int code) {
            switch (stage) {
                case AT_LETTER:
                    stage = AT_DIGIT;
                    return takesLetter(numberBy(code));
                case AT_DIGIT:
                    stage = AT_NEXT;
                    return takesDigit(code);
                default:
                    stage = AT_LETTER;
                    return code == ';' && items < NUMBERS;
            }
        }

        private boolean takesLetter(int number) {
            if (number < 0 || number >= told.length || told[number]) {
                return false;
            }
            told[number] = true;
            which = number;
            return true;
        }

        private boolean takesDigit(int code) {
            if (which < 0 || which >= LEAST.length || which >= numbers.length) {
                return false;
            }
            if (code < '0' + LEAST[which] || code > '9') {
                return false;
            }
            numbers[which] = code - '0';
            items++;
            return true;
        }

        private static int numberBy(int code) {
            switch (code) {
                case 'o':
                    return OWN;
                case 's':
                    return SIGHT;
                case 'e':
                    return EAR;
                case 'k':
                    return KIN;
                case 'y':
                    return YOUNG;
                case 'f':
                    return FROM;
                case 't':
                    return TILL;
                default:
                    return NONE;
            }
        }

        boolean isWhole() {
            return stage == AT_NEXT;
        }

        /** A NUMBER of the LAW that was read: TILL is FROM, if it is less. */
        int lawNumber(int k) {
            return k == TILL ? Math.max(readNumber(TILL), readNumber(FROM)) : readNumber(k);
        }

        private int readNumber(int k) {
            return k >= 0 && k < numbers.length ? numbers[k] : 0;
        }
    }

    private static final class Law {
        private final int[] numbers = new int[NUMBERS];

        Law(LawText text) {
            for (int k = 0; k < numbers.length; k++) {
                numbers[k] = text.lawNumber(k);
            }
        }

        int number(int k) {
            return k >= 0 && k < numbers.length ? numbers[k] : 0;
        }

        boolean allows(int delay) {
            return delay >= number(FROM) && delay <= number(TILL);
        }
    }

    /** SEATS, BLINDS and LINES. A GAP's number is twice its lesser SEAT, and 1 if it goes to the row behind. */
    private static final class Carriage {
        private final int[] faces = new int[MOST_SEATS];
        private final int[] sitters = new int[MOST_SEATS];
        private final int[] lines = new int[MOST_SEATS];
        private final boolean[] blinds = new boolean[GAP_NUMBERS];
        private int wide;
        private int seats;
        private boolean mirrors;
        private int blindCount;

        void build(CarriageText text) {
            wide = text.wide;
            seats = text.seats;
            mirrors = text.mirrors;
            for (int c = 0; c < faces.length; c++) {
                faces[c] = text.faceAt(c);
            }
            for (int c = 0; c < sitters.length; c++) {
                sitters[c] = NONE;
            }
            for (int gap = 0; gap < blinds.length; gap++) {
                blinds[gap] = false;
            }
            blindCount = 0;
            drawLines();
        }

        boolean isSeat(int c) {
            return c >= 0 && c < seats;
        }

        int faceOf(int c) {
            return c >= 0 && c < faces.length ? faces[c] : FRONT;
        }

        int sitterOf(int c) {
            return c >= 0 && c < sitters.length ? sitters[c] : NONE;
        }

        void seatOne(int c, int x) {
            if (c >= 0 && c < sitters.length) {
                sitters[c] = x;
            }
        }

        int lineOf(int c) {
            return c >= 0 && c < lines.length ? lines[c] : 0;
        }

        boolean isOnLine(int c, int d) {
            return (lineOf(c) >>> d & 1) == 1;
        }

        /** The SEAT that stands next to one, a way on; NONE at the side or end. */
        int nextSeat(int c, int way) {
            if (wide <= 0) {
                return NONE;
            }
            int column = c % wide;
            switch (way) {
                case FRONT:
                    return c >= wide ? c - wide : NONE;
                case BACK:
                    return c + wide < seats ? c + wide : NONE;
                case LEFT:
                    return column > 0 ? c - 1 : NONE;
                default:
                    return column + 1 < wide ? c + 1 : NONE;
            }
        }

        int gapBetween(int c, int d) {
            int lesser = Math.min(c, d);
            int greater = Math.max(c, d);
            if (nextSeat(lesser, RIGHT) == greater) {
                return 2 * lesser;
            }
            return nextSeat(lesser, BACK) == greater ? 2 * lesser + 1 : NONE;
        }

        int lesserSeat(int gap) {
            return gap >> 1;
        }

        int greaterSeat(int gap) {
            return (gap & 1) == 0 ? (gap >> 1) + 1 : (gap >> 1) + wide;
        }

        boolean hasBlind(int gap) {
            return gap >= 0 && gap < blinds.length && blinds[gap];
        }

        /** Whether that changes anything. */
        boolean setBlind(int gap, boolean has) {
            if (gap < 0 || gap >= blinds.length || blinds[gap] == has) {
                return false;
            }
            blinds[gap] = has;
            blindCount += has ? 1 : -1;
            drawLines();
            return true;
        }

        private void drawLines() {
            for (int c = 0; c < seats && c < lines.length; c++) {
                lines[c] = lineFrom(c, faceOf(c));
            }
        }

        private int lineFrom(int c, int way) {
            int set = 0;
            int here = c;
            for (int step = 0; step < MOST_SEATS; step++) {
                int next = nextSeat(here, way);
                if (next == NONE) {
                    boolean comesBack = mirrors && (way == FRONT || way == BACK);
                    return comesBack ? set | wayBack(here, way == FRONT ? BACK : FRONT) : set;
                }
                if (hasBlind(gapBetween(here, next))) {
                    return set;
                }
                set |= 1 << next;
                here = next;
            }
            return set;
        }

        private int wayBack(int end, int way) {
            int set = 1 << end;
            int here = end;
            for (int step = 0; step < MOST_SEATS; step++) {
                int next = nextSeat(here, way);
                if (next == NONE || hasBlind(gapBetween(here, next))) {
                    return set;
                }
                set |= 1 << next;
                here = next;
            }
            return set;
        }
    }

    private static class Person {
        final int number;
        final int slept;
        final int kin;
        int seat;

        Person(int number, int slept, int kin) {
            this.number = number;
            this.slept = slept;
            this.kin = kin;
        }

        int kind() {
            return 0;
        }

        final int tired() {
            return 9 - slept;
        }

        int takes(Law law, int strength, boolean sameKin) {
            return strength;
        }

        int takesOwn(Law law, int strength) {
            return strength;
        }

        int tells(YawnTrain home) {
            return tellsAsPerson(home);
        }

        /** Apart from tells(), since a DOG comes here past the CHILD's body. */
        final int tellsAsPerson(YawnTrain home) {
            home.leave(1);
            return tired();
        }

        int wakes(YawnTrain home) {
            home.leave(4);
            return number;
        }
    }

    private static class Child extends Person {
        Child(int number, int slept, int kin) {
            super(number, slept, kin);
        }

        int kind() {
            return 1;
        }

        int takes(Law law, int strength, boolean sameKin) {
            return super.takes(law, strength, sameKin) * law.number(YOUNG) / 9;
        }

        int takesOwn(Law law, int strength) {
            return super.takesOwn(law, strength) * law.number(YOUNG) / 9;
        }

        int tells(YawnTrain home) {
            home.leave(2);
            return tellsAsPerson(home) + 100;
        }
    }

    private static final class Dog extends Child {
        Dog(int number, int slept, int kin) {
            super(number, slept, kin);
        }

        int kind() {
            return 2;
        }

        int takes(Law law, int strength, boolean sameKin) {
            return sameKin ? super.takes(law, strength, true) : 0;
        }

        int tells(YawnTrain home) {
            home.leave(3);
            int child = super.tells(home);
            return child + tellsAsPerson(home);
        }

        int wakes(YawnTrain home) {
            home.leave(5);
            return 80;
        }
    }

    private static final class Yawns {
        private final int[] minutes = new int[MOST_YAWNS];
        private final int[] who = new int[MOST_YAWNS];
        private int count;

        void clear() {
            count = 0;
        }

        boolean isFull() {
            return count >= MOST_YAWNS;
        }

        boolean has(int j) {
            return j >= 0 && j < count;
        }

        void add(int minute, int x) {
            if (count >= 0 && count < minutes.length && count < who.length) {
                minutes[count] = minute;
                who[count] = x;
                count++;
            }
        }

        int minuteOf(int j) {
            return j >= 0 && j < minutes.length ? minutes[j] : 0;
        }

        int whoOf(int j) {
            return j >= 0 && j < who.length ? who[j] : NONE;
        }

        int lastMinute() {
            return minuteOf(count - 1);
        }

        int howOften(int x) {
            int times = 0;
            for (int j = 0; j < count; j++) {
                if (whoOf(j) == x) {
                    times++;
                }
            }
            return times;
        }
    }

    /**
     * Searches the GAPS for BLINDS that take most from SPREAD. A sight is lost by a BLIND in any GAP of its
     * way, and these GAPS stand one behind another in one row or column: so what a set takes is the sum of
     * what each takes, less what two neighbours of it in a line take both.
     */
    private static final class BlindPlan {
        private final int[] gaps = new int[MOST_GAPS];
        private final int[] places = new int[GAP_NUMBERS];
        private final int[] lineNumbers = new int[MOST_GAPS];
        private final int[] alone = new int[MOST_GAPS];
        private final int[] both = new int[MOST_GAPS * MOST_GAPS];
        private final int[] passed = new int[MOST_SEATS];
        private final int[] chosen = new int[MOST_BLINDS];
        private int free;
        private int taken;
        private int saved;

        /** Takes down the GAPS without a BLIND, in order, with nothing to lose yet. */
        void begin(Carriage train) {
            free = 0;
            for (int k = 0; k < alone.length; k++) {
                alone[k] = 0;
            }
            for (int k = 0; k < both.length; k++) {
                both[k] = 0;
            }
            for (int c = 0; c < train.seats; c++) {
                addGap(train, c, RIGHT);
                addGap(train, c, BACK);
            }
        }

        private void addGap(Carriage train, int c, int way) {
            int next = train.nextSeat(c, way);
            int gap = next == NONE ? NONE : train.gapBetween(c, next);
            if (gap < 0 || gap >= places.length || train.hasBlind(gap)) {
                return;
            }
            if (train.wide > 0 && free >= 0 && free < gaps.length && free < lineNumbers.length) {
                gaps[free] = gap;
                places[gap] = free;
                lineNumbers[free] = way == RIGHT ? c / train.wide : MOST_SEATS + c % train.wide;
                free++;
            }
        }

        void addSight(Carriage train, int from, int to, int worth) {
            int way = train.faceOf(from);
            int number = passGaps(train, from, to, way);
            if (number == NONE) {
                // Seen by a MIRROR, from the end ahead back to that SEAT: the same GAPS as from there on.
                number = passGaps(train, to, NONE, way);
            }
            for (int a = 0; a < number && a < passed.length; a++) {
                addAlone(passed[a], worth);
                for (int b = 0; b < a; b++) {
                    addBoth(Math.min(passed[a], passed[b]), Math.max(passed[a], passed[b]), worth);
                }
            }
        }

        /** Takes down the GAPS from a SEAT to another (NONE: to the end): how many; NONE, if it isn't there. */
        private int passGaps(Carriage train, int from, int to, int way) {
            int here = from;
            for (int number = 0; number < passed.length; number++) {
                int next = here == to ? NONE : train.nextSeat(here, way);
                if (next == NONE) {
                    return to == NONE || here == to ? number : NONE;
                }
                int gap = train.gapBetween(here, next);
                passed[number] = gap >= 0 && gap < places.length ? places[gap] : 0;
                here = next;
            }
            return NONE;
        }

        private void addAlone(int place, int worth) {
            if (place >= 0 && place < alone.length) {
                alone[place] += worth;
            }
        }

        private void addBoth(int lesser, int greater, int worth) {
            int place = lesser * MOST_GAPS + greater;
            if (place >= 0 && place < both.length) {
                both[place] += worth;
            }
        }

        private int savedAlone(int place) {
            return place >= 0 && place < alone.length ? alone[place] : 0;
        }

        private int savedBoth(int lesser, int greater) {
            int place = lesser * MOST_GAPS + greater;
            return place >= 0 && place < both.length ? both[place] : 0;
        }

        private boolean isOneLine(int a, int b) {
            return a >= 0 && a < lineNumbers.length && b >= 0 && b < lineNumbers.length
                && lineNumbers[a] == lineNumbers[b];
        }

        void search(int number) {
            taken = 0;
            for (int a = 0; a < free; a++) {
                if (number == 1) {
                    offer(savedAlone(a), a, NONE, NONE);
                } else {
                    searchSecond(number, a);
                }
            }
        }

        private void searchSecond(int number, int a) {
            for (int b = a + 1; b < free; b++) {
                int worth = savedAlone(a) + savedAlone(b) - savedBoth(a, b);
                if (number == 2) {
                    offer(worth, a, b, NONE);
                } else {
                    searchThird(worth, a, b);
                }
            }
        }

        private void searchThird(int worth, int a, int b) {
            // With b in a's line, what a and c lose both is lost with b and c, too.
            boolean between = isOneLine(a, b);
            for (int c = b + 1; c < free; c++) {
                int more = savedAlone(c) - savedBoth(b, c) - (between ? 0 : savedBoth(a, c));
                if (taken == 0 || worth + more > saved) {
                    offer(worth + more, a, b, c);
                }
            }
        }

        /** Sets come in order: of equals the first stays. */
        private void offer(int worth, int a, int b, int c) {
            if (taken != 0 && worth <= saved) {
                return;
            }
            saved = worth;
            if (chosen.length >= MOST_BLINDS) {
                chosen[0] = a;
                chosen[1] = b;
                chosen[2] = c;
            }
            taken = b == NONE ? 1 : c == NONE ? 2 : 3;
        }

        int chosenGap(Carriage train, int q) {
            if (q < 0 || q >= taken || q >= chosen.length) {
                return NONE;
            }
            int place = chosen[q];
            if (place < 0 || place >= gaps.length) {
                return NONE;
            }
            return 100 * train.lesserSeat(gaps[place]) + train.greaterSeat(gaps[place]);
        }
    }
}
