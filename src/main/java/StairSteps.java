import java.util.Arrays;

/** A tenement of flights, each with a step that is somebody's; ../shared/DOC.md says what each call answers. */
public final class StairSteps {
    public static final int NONE = -1, BAD = -2, NO = -3, FULL = -4;

    private static final int NOT_SO_MANY = -5, NO_WAY = -6, BAD_UP = -10, FAULT = -10, BAD_STATUS = -1;

    private static final int FLIGHTS = 3, GOERS = 6, SEEN = 5, NOTES = 6, MARKS = 6, UNDOS = 8, BYTES = 150;
    private static final int KINDS = 6, MOST_LEGS = 4, MOST_LOAD = 9, MOST_TOLD = 9, DAY = 24, MOST_HOURS = 99;
    private static final int LAST = 9999, TOP = 11, MOST_STEP = 10, OWNABLE = 0x7FE, STUCK_COSTS = 20;
    private static final int MOST_DARK = 6, TENTHS = 10, MOST_SEED = 999999, MOST_YEARS = 60;

    // Kind 0, of owners and of goers, is PLAIN: all others stand under it.
    private static final int CLERK = 1, POET = 2, LADY = 3, HEIR = 4, NOBODY = 5;
    private static final int CHILD = 1, PORTER = 2, COFFIN = 3, LOVER = 4, OLD = 5;

    private final House house = new House();
    private final House firstImage = new House();
    private final House secondImage = new House();
    private boolean firstKept, secondKept;
    // What a call only tries out is tried here, so that no call makes a house of its own.
    private final House trial = new House();
    private final Climb climb = new Climb();
    private final Climb otherClimb = new Climb();
    private final Reader reader = new Reader();
    private final int[] ways = new int[TOP + 1];
    private final int[] waysBefore = new int[TOP + 1];
    private final int[] alike = new int[MOST_TOLD + 1];
    private long above = 0, below = 1;
    private int badCalls, noCalls, fullCalls;

    public StairSteps() {
    }

    // ---- a tenement

    public int tenement() {
        int goers = house.goers;
        house.empty();
        return goers;
    }

    public int flight(int kind, int s) {
        if (!isKind(kind) || !isOwnable(s)) return bad();
        if (house.flights >= FLIGHTS) return full();
        return house.addFlight(kind, s);
    }

    public int goer(int kind, int legs, int f) {
        if (!isKind(kind) || legs < 1 || legs > MOST_LEGS || !house.hasFlight(f)) return bad();
        if (house.goers >= GOERS) return full();
        return house.addGoer(kind, legs, f);
    }

    public int type(int c) {
        if (c < 0 || c > 127) return bad();
        if (reader.length >= BYTES) return full();
        return reader.append(c);
    }

    public int clear() {
        int length = reader.length;
        reader.length = 0;
        return length;
    }

    public int read() {
        trial.empty();
        boolean stands = reader.readOpening();
        int items = 1;
        while (stands && items <= BYTES && reader.movesOn()) {
            stands = reader.readItem(trial);
            items++;
        }
        if (!stands) return FAULT - reader.start;
        house.takeOver(trial);
        return items;
    }

    // ---- strides

    public int strides(int i, int k) {
        if (!house.hasGoer(i) || k < 1 || k > MOST_TOLD) return bad();
        if (house.isOver(i) || k > house.reach(i)) return no();
        house.keepMoment();
        return house.stride(i, k);
    }

    public int begins(int i) {
        if (!house.hasGoer(i)) return bad();
        int step = house.stepOf(i);
        if (step == 0) return no();
        house.keepMoment();
        house.setStep(i, 0);
        return step;
    }

    public int loads(int i, int x) {
        if (!house.hasGoer(i) || !isLoad(x)) return bad();
        int load = house.loadOf(i);
        if (load == x) return no();
        house.keepMoment();
        house.setLoad(i, x);
        return load;
    }

    public int sells(int f, int s) {
        if (!house.hasFlight(f) || !isOwnable(s)) return bad();
        int step = house.ownerStep(f);
        if (step == s) return no();
        house.keepMoment();
        house.setOwnerStep(f, s);
        return step;
    }

    public int hours(int n) {
        if (n < 1 || n > MOST_HOURS) return bad();
        house.keepMoment();
        house.pass(n);
        return house.hour();
    }

    public int undo() {
        if (house.kept <= 0) return no();
        house.dropMoment();
        return house.hour();
    }

    public int of(int i, int what) {
        if (!house.hasGoer(i) || what < 0 || what > 5) return bad();
        return house.ofGoer(i, what);
    }

    public int about(int f, int what) {
        if (!house.hasFlight(f) || what < 0 || what > 2) return bad();
        return what == 0 ? house.ownerKind(f) : what == 1 ? house.ownerStep(f) : house.barsAt(f, house.hourOfDay());
    }

    // ---- up

    public int up(int i, int k) {
        if (!house.hasGoer(i) || k < NONE) {
            bad();
            return BAD_UP;
        }
        climb.find(house.stepOf(i), house.reach(i), house.barsFor(i));
        if (climb.length == NONE) return NO_WAY;
        if (k == NONE) return climb.length;
        return k < climb.length ? climb.strideAt(k) : NOT_SO_MANY;
    }

    public int stuck() {
        int bits = 0;
        for (int i = 0; i < house.goers; i++) {
            int fewest = climb.fewestFrom(house.stepOf(i), house.reach(i), house.barsFor(i));
            if (fewest == NONE) bits |= 1 << i;
        }
        return bits;
    }

    public int soon(int i, int what) {
        if (!house.hasGoer(i) || what < 0 || what > 1) return bad();
        int bestHour = NONE, best = NONE;
        for (int t = 0; t < DAY; t++) {
            int fewest = climb.fewestFrom(house.stepOf(i), house.reachAt(i, t), house.barsAt(house.flightOf(i), t));
            if (fewest == NONE || best != NONE && fewest >= best) continue;
            best = fewest;
            bestHour = t;
        }
        return what == 0 ? bestHour : best;
    }

    public int site(int f, int what) {
        if (!house.hasFlight(f) || what < 0 || what > 1) return bad();
        int bestStep = NONE, best = NONE;
        for (int s = 1; s <= MOST_STEP; s++) {
            int together = allUp(f, s);
            if (best != NONE && together >= best) continue;
            best = together;
            bestStep = s;
        }
        return what == 0 ? bestStep : best;
    }

    private int allUp(int f, int s) {
        int bars = barBits(s, barCount(house.ownerKind(f), house.hourOfDay()));
        int together = 0;
        for (int i = 0; i < house.goers; i++) {
            if (house.flightOf(i) != f) continue;
            int fewest = climb.fewestFrom(0, house.reach(i), bars);
            together += fewest == NONE ? STUCK_COSTS : fewest;
        }
        return together;
    }

    public int meets(int i, int j) {
        if (!house.hasGoer(i) || !house.hasGoer(j) || i == j) return bad();
        if (house.flightOf(i) != house.flightOf(j)) return bad();
        int bars = house.barsFor(i);
        climb.find(house.stepOf(i), house.reach(i), bars);
        otherClimb.find(house.stepOf(j), house.reach(j), bars);
        if (climb.length == NONE || otherClimb.length == NONE) return NONE;
        int one = house.stepOf(i), other = house.stepOf(j);
        for (int behind = 0; behind <= TOP; behind++) {
            if (one == other) return behind;
            one += climb.strideAt(behind);
            other += otherClimb.strideAt(behind);
        }
        return NONE;
    }

    // ---- whose it was

    public int seen(int f, int s, int t, int barred) {
        if (!house.hasFlight(f) || !isOwnable(s) || !isHour(t) || barred < 0 || barred > 1) return bad();
        if (house.seen.isFull()) return full();
        return house.seen.add(f, s, t, barred, 0);
    }

    public int whose(int f) {
        if (!house.hasFlight(f)) return bad();
        return fittingSteps(f);
    }

    public int tell(int f) {
        if (!house.hasFlight(f)) return bad();
        int fitting = fittingSteps(f);
        if (fitting == 0) return NONE;
        int found = NONE, least = NONE;
        for (int s = 1; s <= MOST_STEP; s++) {
            for (int t = 0; t < DAY; t++) {
                int barring = Integer.bitCount(fitting & ownersBarring(s, barCount(house.ownerKind(f), t)));
                int greater = Math.max(barring, Integer.bitCount(fitting) - barring);
                if (least != NONE && greater >= least) continue;
                least = greater;
                found = 100 * s + t;
            }
        }
        return found;
    }

    private int fittingSteps(int f) {
        int fitting = OWNABLE;
        Ledger seen = house.seen;
        for (int n = 0; n < seen.size; n++) {
            if (seen.cell(n, 0) != f) continue;
            int barring = ownersBarring(seen.cell(n, 1), barCount(house.ownerKind(f), seen.cell(n, 2)));
            fitting &= seen.cell(n, 3) == 1 ? barring : ~barring;
        }
        return fitting;
    }

    public int note(int f, int t, int x) {
        if (!house.hasFlight(f) || !isHour(t) || x < 0 || x > MOST_TOLD) return bad();
        if (house.notes.isFull()) return full();
        return house.notes.add(f, t, x, 0, 0);
    }

    public int mark(int i, int l, int x, int t, int y) {
        if (!house.hasGoer(i) || l < 1 || l > MOST_LEGS || !isLoad(x)) return bad();
        if (!isHour(t) || y < 0 || y > MOST_TOLD) return bad();
        if (house.marks.isFull()) return full();
        return house.marks.add(i, l, x, t, y);
    }

    public int forget(int what) {
        switch (what) {
            case 0: return house.seen.empty();
            case 1: return house.notes.empty();
            case 2: return house.marks.empty();
            default: return bad();
        }
    }

    public int is(int f) {
        if (!house.hasFlight(f)) return bad();
        return ownerKinds(f);
    }

    public int look(int f) {
        if (!house.hasFlight(f)) return bad();
        int fitting = ownerKinds(f);
        if (fitting == 0) return NONE;
        int found = NONE, least = NONE;
        for (int t = 0; t < DAY; t++) {
            int most = mostOwnersAlike(fitting, t);
            if (least != NONE && most >= least) continue;
            least = most;
            found = t;
        }
        return found;
    }

    private int ownerKinds(int f) {
        int fitting = 0;
        for (int kind = 0; kind < KINDS; kind++) {
            if (ownerFits(f, kind)) fitting |= 1 << kind;
        }
        return fitting;
    }

    private boolean ownerFits(int f, int kind) {
        Ledger notes = house.notes;
        for (int n = 0; n < notes.size; n++) {
            if (notes.cell(n, 0) == f && barCount(kind, notes.cell(n, 1)) != notes.cell(n, 2)) return false;
        }
        return true;
    }

    private int mostOwnersAlike(int fitting, int t) {
        Arrays.fill(alike, 0);
        int most = 0;
        for (int kind = 0; kind < KINDS; kind++) {
            if ((fitting >> kind & 1) == 1) most = Math.max(most, oneMoreAlike(barCount(kind, t)));
        }
        return most;
    }

    private int oneMoreAlike(int answer) {
        put(alike, answer, at(alike, answer) + 1);
        return at(alike, answer);
    }

    public int kinds(int i) {
        if (!house.hasGoer(i)) return bad();
        return goerKinds(i);
    }

    public int ask(int i) {
        if (!house.hasGoer(i)) return bad();
        int fitting = goerKinds(i);
        if (fitting == 0) return NONE;
        int found = NONE, least = NONE;
        for (int x = 0; x <= MOST_LOAD; x++) {
            for (int t = 0; t < DAY; t++) {
                int most = mostGoersAlike(fitting, house.legsOf(i), x, t);
                if (least != NONE && most >= least) continue;
                least = most;
                found = 100 * x + t;
            }
        }
        return found;
    }

    private int goerKinds(int i) {
        int fitting = 0;
        for (int kind = 0; kind < KINDS; kind++) {
            if (goerFits(i, kind)) fitting |= 1 << kind;
        }
        return fitting;
    }

    private boolean goerFits(int i, int kind) {
        Ledger marks = house.marks;
        for (int n = 0; n < marks.size; n++) {
            if (marks.cell(n, 0) != i) continue;
            int reach = strideOf(kind, marks.cell(n, 1), marks.cell(n, 2), marks.cell(n, 3));
            if (reach != marks.cell(n, 4)) return false;
        }
        return true;
    }

    private int mostGoersAlike(int fitting, int legs, int load, int t) {
        Arrays.fill(alike, 0);
        int most = 0;
        for (int kind = 0; kind < KINDS; kind++) {
            if ((fitting >> kind & 1) == 1) most = Math.max(most, oneMoreAlike(strideOf(kind, legs, load, t)));
        }
        return most;
    }

    public int gap(int a, int b) {
        if (!house.hasGoer(a) || !house.hasGoer(b) || a == b) return bad();
        int bits = 0;
        for (int pair = 0; pair < 4; pair++) {
            int first = pair & 1, second = pair >> 1;
            if (rests(a, first, second) && rests(b, second, first)) bits |= 1 << pair;
        }
        return bits;
    }

    private boolean rests(int i, int own, int other) {
        return gain(i, own, other) >= gain(i, 1 - own, other);
    }

    private int gain(int i, int own, int other) {
        if (own == 1 && other == 1) return -house.loadOf(i) - 2;
        if (own == 1) return 4;
        return other == 1 ? 1 : 2;
    }

    public int dark(int i, int n, int c) {
        if (!house.hasGoer(i) || n < 0 || n > MOST_DARK || c < 0 || c > TENTHS) return bad();
        int bars = house.barsFor(i);
        climb.find(house.stepOf(i), house.reach(i), bars);
        if (climb.length == NONE) {
            setFraction(0, 1);
            return 1;
        }
        Arrays.fill(ways, 0);
        put(ways, house.stepOf(i), 1);
        int all = 1;
        for (int k = 0; k < n && k < climb.length; k++) {
            strideInDark(climb.strideAt(k), c, bars);
            all *= TENTHS;
        }
        setFraction(sum(ways), all);
        return 1;
    }

    private void strideInDark(int k, int c, int bars) {
        copyInto(waysBefore, ways);
        Arrays.fill(ways, 0);
        for (int p = 0; p <= TOP; p++) {
            int here = at(waysBefore, p);
            comeDown(Math.min(TOP, p + k), here * (TENTHS - c), bars);
            comeDown(Math.min(TOP, p + k + 1), here * c, bars);
        }
    }

    private void comeDown(int p, int more, int bars) {
        if (!isBarred(bars, p)) put(ways, p, at(ways, p) + more);
    }

    private static int sum(int[] row) {
        int all = 0;
        for (int n = 0; n < row.length; n++) all += row[n];
        return all;
    }

    private void setFraction(long top, long bottom) {
        long divisor = commonDivisor(top, bottom);
        if (divisor < 1) return;
        above = top / divisor;
        below = bottom / divisor;
    }

    private static long commonDivisor(long a, long b) {
        long one = a, other = b;
        for (int turn = 0; turn < 100 && other > 0; turn++) {
            long rest = one % other;
            one = other;
            other = rest;
        }
        return one;
    }

    public int years(int seed, int n) {
        if (seed < 0 || seed > MOST_SEED || n < 0 || n > MOST_YEARS) return bad();
        trial.takeOver(house);
        long x = seed;
        for (int turn = 0; turn < n; turn++) {
            x = (x * 1103515245L + 12345L) % 2147483648L;
            strideByChance((int) (x / 65536 % 6), x / 1048576);
            trial.pass(1);
        }
        return trial.falls() - house.falls();
    }

    private void strideByChance(int i, long chance) {
        if (!trial.hasGoer(i) || trial.isOver(i)) return;
        int reach = trial.reach(i);
        if (reach > 0) trial.stride(i, (int) (chance % reach) + 1);
    }

    // ---- what there is

    public long part(int what) {
        if (what < 0 || what > 1) return bad();
        return what == 0 ? above : below;
    }

    public int image(int i) {
        if (i < 0 || i > 1) return bad();
        if (i == 0) {
            firstImage.takeOver(house);
            firstKept = true;
        } else {
            secondImage.takeOver(house);
            secondKept = true;
        }
        return 1;
    }

    public int from(int i) {
        if (i < 0 || i > 1) return bad();
        if (!(i == 0 ? firstKept : secondKept)) return no();
        house.takeOver(i == 0 ? firstImage : secondImage);
        return 1;
    }

    public int status(int what) {
        switch (what) {
            case 0: return badCalls;
            case 1: return noCalls;
            case 2: return fullCalls;
            default:
                bad();
                return BAD_STATUS;
        }
    }

    public int count(int what) {
        if (what < 0 || what > 9) return bad();
        return howMany(what);
    }

    private int howMany(int what) {
        switch (what) {
            case 0: return house.goers;
            case 1: return house.flights;
            case 2: return house.over();
            case 3: return house.hour();
            case 4: return house.falls();
            case 5: return house.seen.size;
            case 6: return house.notes.size;
            case 7: return house.marks.size;
            case 8: return house.kept;
            default: return reader.length;
        }
    }

    public long digest() {
        long h = 1777;
        for (int what = 0; what <= 9; what++) h = 31 * h + howMany(what);
        for (int f = 0; f < house.flights; f++) {
            h = 31 * h + house.ownerKind(f);
            h = 31 * h + house.ownerStep(f);
        }
        for (int i = 0; i < house.goers; i++) {
            for (int what = 0; what <= 4; what++) h = 31 * h + house.ofGoer(i, what);
        }
        h = house.seen.mixInto(h);
        h = house.notes.mixInto(h);
        h = house.marks.mixInto(h);
        h = 31 * h + above;
        return 31 * h + below;
    }

    // ---- refusals, and what a number may be

    private int bad() {
        badCalls++;
        return BAD;
    }

    private int no() {
        noCalls++;
        return NO;
    }

    private int full() {
        fullCalls++;
        return FULL;
    }

    private static boolean isKind(int kind) {
        return kind >= 0 && kind < KINDS;
    }

    private static boolean isOwnable(int s) {
        return s >= 1 && s <= MOST_STEP;
    }

    private static boolean isLoad(int x) {
        return x >= 0 && x <= MOST_LOAD;
    }

    private static boolean isHour(int t) {
        return t >= 0 && t < DAY;
    }

    // ---- rows of numbers: no index is used that was not looked at

    private static int at(int[] row, int n) {
        return n >= 0 && n < row.length ? row[n] : 0;
    }

    private static void put(int[] row, int n, int value) {
        if (n >= 0 && n < row.length) row[n] = value;
    }

    private static void copyInto(int[] to, int[] source) {
        System.arraycopy(source, 0, to, 0, Math.min(source.length, to.length));
    }

    // ---- kinds of owners: how many steps are barred at hour t of a day

    private static int barCount(int kind, int t) {
        int plain = 1;
        int clerk = plain + (t >= 18 ? 1 : 0);
        int lady = plain + (t >= 9 && t <= 16 ? 2 : 0);
        switch (kind) {
            case CLERK: return clerk;
            case POET: return clerk + (t % 6 == 0 ? 1 : 0);
            case LADY: return lady;
            case HEIR: return Math.max(1, lady - 1);
            case NOBODY: return t < 5 ? 0 : plain;
            default: return plain;
        }
    }

    /** The steps, as bits, that an owner at step s bars; 11 never is. */
    private static int barBits(int s, int howMany) {
        return lowBits(howMany) << s & OWNABLE;
    }

    /** The steps, as bits, at which an owner who bars so many would bar step s. */
    private static int ownersBarring(int s, int howMany) {
        if (howMany < 1) return 0;
        return lowBits(howMany) << s >> (howMany - 1) & OWNABLE;
    }

    private static int lowBits(int howMany) {
        return (1 << howMany) - 1;
    }

    private static boolean isBarred(int bars, int p) {
        return (bars >> p & 1) == 1;
    }

    // ---- kinds of goers: how many steps one strides at the most

    private static int strideOf(int kind, int legs, int load, int t) {
        int plain = legs;
        int child = (plain + 1) / 2;
        int porter = Math.max(1, plain - load / 3);
        switch (kind) {
            case CHILD: return child;
            case PORTER: return porter;
            case COFFIN: return Math.min(2, porter);
            case LOVER: return plain + (t >= 18 ? 1 : 0);
            case OLD: return t < 8 ? 1 : child;
            default: return plain;
        }
    }

    /** What an image keeps: flights, goers, what was seen, noted, marked, and what may be undone. */
    private static final class House {
        // A moment is what UNDO gives back; it lies in one row so that one copy keeps it.
        static final int STEP_AT = 0, LOAD_AT = GOERS, OWNER_AT = 2 * GOERS;
        static final int FALLS_AT = 2 * GOERS + FLIGHTS, HOUR_AT = FALLS_AT + 1, MOMENT = FALLS_AT + 2;

        int flights, goers, kept;
        final int[] ownerKinds = new int[FLIGHTS];
        final int[] goerKinds = new int[GOERS];
        final int[] legs = new int[GOERS];
        final int[] goerFlights = new int[GOERS];
        final int[] now = new int[MOMENT];
        final int[] past = new int[UNDOS * MOMENT];
        final Ledger seen = new Ledger(4, SEEN);
        final Ledger notes = new Ledger(3, NOTES);
        final Ledger marks = new Ledger(5, MARKS);

        void empty() {
            flights = 0;
            goers = 0;
            kept = 0;
            Arrays.fill(now, 0);
            seen.empty();
            notes.empty();
            marks.empty();
        }

        void takeOver(House other) {
            flights = other.flights;
            goers = other.goers;
            kept = other.kept;
            copyInto(ownerKinds, other.ownerKinds);
            copyInto(goerKinds, other.goerKinds);
            copyInto(legs, other.legs);
            copyInto(goerFlights, other.goerFlights);
            copyInto(now, other.now);
            copyInto(past, other.past);
            seen.takeOver(other.seen);
            notes.takeOver(other.notes);
            marks.takeOver(other.marks);
        }

        boolean hasFlight(int f) {
            return f >= 0 && f < flights;
        }

        boolean hasGoer(int i) {
            return i >= 0 && i < goers;
        }

        int addFlight(int kind, int s) {
            int f = flights;
            put(ownerKinds, f, kind);
            setOwnerStep(f, s);
            flights++;
            kept = 0;
            return f;
        }

        int addGoer(int kind, int l, int f) {
            int i = goers;
            put(goerKinds, i, kind);
            put(legs, i, l);
            put(goerFlights, i, f);
            setStep(i, 0);
            setLoad(i, 0);
            goers++;
            kept = 0;
            return i;
        }

        void keepMoment() {
            if (kept >= UNDOS) {
                System.arraycopy(past, MOMENT, past, 0, (UNDOS - 1) * MOMENT);
                kept = UNDOS - 1;
            }
            if (kept >= 0) System.arraycopy(now, 0, past, kept * MOMENT, MOMENT);
            kept++;
        }

        void dropMoment() {
            if (kept < 1 || kept > UNDOS) return;
            kept--;
            System.arraycopy(past, kept * MOMENT, now, 0, MOMENT);
        }

        int ownerKind(int f) {
            return at(ownerKinds, f);
        }

        int ownerStep(int f) {
            return at(now, OWNER_AT + f);
        }

        void setOwnerStep(int f, int s) {
            put(now, OWNER_AT + f, s);
        }

        int legsOf(int i) {
            return at(legs, i);
        }

        int flightOf(int i) {
            return at(goerFlights, i);
        }

        int stepOf(int i) {
            return at(now, STEP_AT + i);
        }

        void setStep(int i, int p) {
            put(now, STEP_AT + i, p);
        }

        int loadOf(int i) {
            return at(now, LOAD_AT + i);
        }

        void setLoad(int i, int x) {
            put(now, LOAD_AT + i, x);
        }

        int falls() {
            return at(now, FALLS_AT);
        }

        int hour() {
            return at(now, HOUR_AT);
        }

        int hourOfDay() {
            return at(now, HOUR_AT) % DAY;
        }

        void pass(int n) {
            put(now, HOUR_AT, Math.min(LAST, hour() + n));
        }

        boolean isOver(int i) {
            return stepOf(i) >= TOP;
        }

        int over() {
            int many = 0;
            for (int i = 0; i < goers; i++) {
                if (isOver(i)) many++;
            }
            return many;
        }

        int barsAt(int f, int t) {
            return barBits(at(now, OWNER_AT + f), barCount(at(ownerKinds, f), t));
        }

        int barsFor(int i) {
            return barsAt(flightOf(i), hourOfDay());
        }

        int reach(int i) {
            return reachAt(i, hourOfDay());
        }

        int reachAt(int i, int t) {
            return strideOf(at(goerKinds, i), at(legs, i), at(now, LOAD_AT + i), t);
        }

        int ofGoer(int i, int what) {
            switch (what) {
                case 0: return at(goerKinds, i);
                case 1: return legsOf(i);
                case 2: return flightOf(i);
                case 3: return stepOf(i);
                case 4: return loadOf(i);
                default: return reach(i);
            }
        }

        int stride(int i, int k) {
            int p = Math.min(TOP, stepOf(i) + k);
            if (isBarred(barsFor(i), p)) {
                p = 0;
                put(now, FALLS_AT, Math.min(LAST, falls() + 1));
            }
            setStep(i, p);
            return p;
        }
    }

    /** What came, as it came: some numbers each, and no more of them than told. */
    private static final class Ledger {
        final int width, most;
        final int[] cells;
        int size;

        Ledger(int width, int most) {
            this.width = width > 0 ? width : 1;
            this.most = most > 0 ? most : 1;
            cells = new int[this.width * this.most];
        }

        boolean isFull() {
            return size >= most;
        }

        int empty() {
            int were = size;
            size = 0;
            return were;
        }

        /** Takes the first of these numbers, as many as it is wide. */
        int add(int a, int b, int c, int d, int e) {
            if (isFull()) return size;
            size++;
            set(0, a);
            set(1, b);
            set(2, c);
            set(3, d);
            set(4, e);
            return size;
        }

        private void set(int column, int value) {
            if (column < width) put(cells, (size - 1) * width + column, value);
        }

        int cell(int n, int column) {
            return at(cells, n * width + column);
        }

        void takeOver(Ledger other) {
            size = other.size;
            copyInto(cells, other.cells);
        }

        long mixInto(long before) {
            long h = before;
            for (int n = 0; n < size; n++) {
                for (int column = 0; column < width; column++) h = 31 * h + cell(n, column);
            }
            return h;
        }
    }

    /** The fewest strides to the top, and the first row of them. */
    private static final class Climb {
        final int[] fewest = new int[TOP + 1];
        final int[] row = new int[TOP];
        /** How many strides the row has; NONE: there is no row. */
        int length = NONE;

        int fewestFrom(int p, int reach, int bars) {
            put(fewest, TOP, 0);
            for (int q = TOP - 1; q >= p; q--) {
                int best = NONE;
                for (int k = 1; k <= reach && q + k <= TOP; k++) {
                    int rest = restBehind(q + k, bars);
                    if (rest != NONE && (best == NONE || rest + 1 < best)) best = rest + 1;
                }
                put(fewest, q, best);
            }
            return at(fewest, p);
        }

        private int restBehind(int p, int bars) {
            return isBarred(bars, p) ? NONE : at(fewest, p);
        }

        void find(int start, int reach, int bars) {
            length = fewestFrom(start, reach, bars);
            int p = start;
            for (int n = 0; n < length; n++) {
                int k = shortest(p, reach, bars, length - n - 1);
                put(row, n, k);
                p += k;
            }
        }

        private int shortest(int p, int reach, int bars, int rest) {
            for (int k = 1; k <= reach && p + k <= TOP; k++) {
                if (restBehind(p + k, bars) == rest) return k;
            }
            return 0;
        }

        /** 0 behind the last one: who is over waits. */
        int strideAt(int n) {
            return n < length ? at(row, n) : 0;
        }
    }

    /** The text, and a look at it token by token; where it stops reading, start is the fault. */
    private static final class Reader {
        static final int END = 0, WORD = 1, NUMBER = 2, STOP = 3, NOTHING = 4;

        final int[] bytes = new int[BYTES];
        int length;
        int start, behind, sort, value;

        int append(int c) {
            put(bytes, length, c);
            length++;
            return length;
        }

        boolean readOpening() {
            behind = 0;
            next();
            return isWord("tenement") && stops();
        }

        /** Whether another item begins: its first token is then the one looked at. */
        boolean movesOn() {
            next();
            return sort != END;
        }

        boolean readItem(House house) {
            if (isWord("flight")) return readFlight(house);
            if (isWord("goer")) return readGoer(house);
            if (isWord("load")) return readLoad(house);
            if (isWord("stride")) return readStride(house);
            return isWord("hours") && readHours(house);
        }

        private boolean readFlight(House house) {
            if (house.flights >= FLIGHTS || !isNumber(0, KINDS - 1)) return false;
            int kind = value;
            if (!isNumber(1, MOST_STEP)) return false;
            house.addFlight(kind, value);
            return stops();
        }

        private boolean readGoer(House house) {
            if (house.goers >= GOERS || !isNumber(0, KINDS - 1)) return false;
            int kind = value;
            if (!isNumber(1, MOST_LEGS)) return false;
            int legs = value;
            if (!isNumber(0, house.flights - 1)) return false;
            house.addGoer(kind, legs, value);
            return stops();
        }

        private boolean readLoad(House house) {
            if (!isNumber(0, house.goers - 1)) return false;
            int i = value;
            if (!isNumber(0, MOST_LOAD)) return false;
            house.setLoad(i, value);
            return stops();
        }

        private boolean readStride(House house) {
            if (!isNumber(0, house.goers - 1) || house.isOver(value)) return false;
            int i = value;
            if (!isNumber(1, house.reach(i))) return false;
            house.stride(i, value);
            return stops();
        }

        private boolean readHours(House house) {
            if (!isNumber(1, MOST_HOURS)) return false;
            house.pass(value);
            return stops();
        }

        private boolean stops() {
            next();
            return sort == STOP;
        }

        private boolean isNumber(int least, int most) {
            next();
            return sort == NUMBER && value >= least && value <= most;
        }

        private boolean isWord(String word) {
            if (sort != WORD || behind - start != word.length()) return false;
            for (int n = 0; n < word.length(); n++) {
                if (at(bytes, start + n) != word.charAt(n)) return false;
            }
            return true;
        }

        private void next() {
            start = behind;
            while (start < length && at(bytes, start) == ' ') start++;
            behind = start;
            if (start >= length) {
                sort = END;
            } else if (isLetter(start)) {
                takeWord();
            } else if (isFigure(start)) {
                takeNumber();
            } else {
                sort = at(bytes, start) == ';' ? STOP : NOTHING;
                behind = start + 1;
            }
        }

        private void takeWord() {
            sort = WORD;
            while (behind < length && isLetter(behind)) behind++;
        }

        private void takeNumber() {
            value = 0;
            while (behind < length && isFigure(behind)) {
                value = value * 10 + at(bytes, behind) - '0';
                behind++;
            }
            sort = behind - start <= 2 ? NUMBER : NOTHING;
        }

        private boolean isLetter(int n) {
            return at(bytes, n) >= 'a' && at(bytes, n) <= 'z';
        }

        private boolean isFigure(int n) {
            return at(bytes, n) >= '0' && at(bytes, n) <= '9';
        }
    }
}
