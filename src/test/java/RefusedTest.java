/** The empty and the full, what is refused then, and which reason comes first. */
public final class RefusedTest {
    private static final Due due = new Due("RefusedTest");
    private static final int MIN = Integer.MIN_VALUE, MAX = Integer.MAX_VALUE;

    public static void main(String[] args) {
        constantsAreAsTold();
        flightsAreFullAtThree();
        goersAreFullAtSix();
        theTextIsFullAt150();
        seenAreFullAtFive();
        notesAreFullAtSix();
        marksAreFullAtSix();
        stridesAreRefused();
        beginningAnewIsRefused();
        loadsAreRefused();
        salesAreRefused();
        undoIsRefused();
        imagesAreRefused();
        pairsAreRefused();
        badComesAheadOfNo();
        badComesAheadOfFull();
        eachRefusalCountsOnce();
        nothingElseIsRefused();
        due.end();
    }

    private static void constantsAreAsTold() {
        due.says("public static final int NONE = -1, BAD = -2, NO = -3, FULL = -4;");
        due.is("NONE", StairSteps.NONE, -1);
        due.is("BAD", StairSteps.BAD, -2);
        due.is("NO", StairSteps.NO, -3);
        due.is("FULL", StairSteps.FULL, -4);
    }

    private static void flightsAreFullAtThree() {
        due.says("`int flight(int kind, int s)`: A FLIGHT: its number. BAD; FULL: 3.");
        StairSteps x = new StairSteps();
        for (int f = 0; f < 3; f++) due.is("3 flight " + f, x.flight(f + 1, 10 - f), f);
        due.is("3 a fourth", x.flight(0, 1), StairSteps.FULL);
        due.is("3 a fifth", x.flight(0, 1), StairSteps.FULL);
        due.is("3 still three", x.count(1), 3);
        for (int f = 0; f < 3; f++) {
            due.is("3 kind " + f, x.about(f, 0), f + 1);
            due.is("3 step " + f, x.about(f, 1), 10 - f);
        }
        due.full("3 a fourth", Houses::full, y -> y.flight(5, 10));
        x.tenement();
        for (int f = 0; f < 3; f++) due.is("3 begun anew, flight " + f, x.flight(0, 1), f);
        due.is("3 begun anew, a fourth", x.flight(0, 1), StairSteps.FULL);
    }

    private static void goersAreFullAtSix() {
        due.says("`int goer(int kind, int legs, int f)`: A GOER: the number. BAD; FULL: 6.");
        StairSteps x = new StairSteps();
        x.flight(0, 5);
        x.flight(0, 5);
        for (int i = 0; i < 6; i++) due.is("4 goer " + i, x.goer(5 - i, 1 + i % 4, i % 2), i);
        due.is("4 a seventh", x.goer(0, 1, 0), StairSteps.FULL);
        due.is("4 an eighth", x.goer(0, 1, 1), StairSteps.FULL);
        due.is("4 still six", x.count(0), 6);
        for (int i = 0; i < 6; i++) {
            int all = x.of(i, 0) * 100 + x.of(i, 1) * 10 + x.of(i, 2);
            due.is("4 what goer " + i + " is", all, (5 - i) * 100 + (1 + i % 4) * 10 + i % 2);
        }
        due.full("4 a seventh", Houses::full, y -> y.goer(5, 4, 2));
        due.is("4 there were", x.tenement(), 6);
        x.flight(0, 5);
        for (int i = 0; i < 6; i++) due.is("4 begun anew, goer " + i, x.goer(0, 1, 0), i);
        due.is("4 begun anew, a seventh", x.goer(0, 1, 0), StairSteps.FULL);
    }

    private static void theTextIsFullAt150() {
        due.says("`int type(int c)`: A byte (0 .. 127) comes behind THE TEXT: how many it has. BAD; FULL.");
        StairSteps x = new StairSteps();
        for (int n = 1; n <= 150; n++) due.is("5 byte " + n, x.type(n % 128), n);
        due.is("5 byte 151", x.type(';'), StairSteps.FULL);
        due.is("5 byte 152", x.type(' '), StairSteps.FULL);
        due.is("5 still 150", x.count(9), 150);
        due.full("5 byte 151", Houses::fullText, y -> y.type('x'));
        due.full("5 byte 151 of 0", Houses::fullText, y -> y.type(0));
        due.full("5 byte 151 of 127", Houses::fullText, y -> y.type(127));
        due.says("`int clear()`: THE TEXT is empty: how many it had.");
        due.is("6 how many it had", x.clear(), 150);
        due.is("6 empty", x.count(9), 0);
        due.is("6 the empty one had", x.clear(), 0);
        for (int n = 1; n <= 150; n++) due.is("6 begun anew, byte " + n, x.type('a'), n);
        due.is("6 begun anew, byte 151", x.type('a'), StairSteps.FULL);
    }

    private static void seenAreFullAtFive() {
        due.says("`int seen(int f, int s, int t, int barred)`: SEEN: how many there are. BAD; FULL: 5.");
        StairSteps x = Houses.one();
        for (int n = 1; n <= 5; n++) due.is("21 seen " + n, x.seen(0, 5, n, 1), n);
        due.is("21 a sixth", x.seen(0, 5, 1, 1), StairSteps.FULL);
        due.is("21 still five", x.count(5), 5);
        due.is("21 the sixth does not count", x.seen(0, 5, 1, 0), StairSteps.FULL);
        due.is("21 so the step fits", x.whose(0), 1 << 5);
        due.full("21 a sixth", Houses::full, y -> y.seen(0, 1, 0, 1));
        due.is("21 there were", x.forget(0), 5);
        for (int n = 1; n <= 5; n++) due.is("21 begun anew, seen " + n, x.seen(0, 4, n, 1), n);
        due.is("21 begun anew, a sixth", x.seen(0, 4, 1, 1), StairSteps.FULL);
        due.is("21 begun anew, the step", x.whose(0), 1 << 4);
    }

    private static void notesAreFullAtSix() {
        due.says("`int note(int f, int t, int x)`: A NOTE: how many there are. BAD; FULL: 6.");
        StairSteps x = Houses.one();
        for (int n = 1; n <= 6; n++) due.is("24 note " + n, x.note(0, 17, 1), n);
        due.is("24 a seventh", x.note(0, 17, 9), StairSteps.FULL);
        due.is("24 still six", x.count(6), 6);
        due.is("24 the seventh does not count", x.is(0), 63);
        due.full("24 a seventh", Houses::full, y -> y.note(0, 0, 0));
        due.is("24 there were", x.forget(1), 6);
        for (int n = 1; n <= 6; n++) due.is("24 begun anew, note " + n, x.note(0, 10, 3), n);
        due.is("24 begun anew, a seventh", x.note(0, 10, 3), StairSteps.FULL);
        due.is("24 begun anew, the kind", x.is(0), 1 << 3);
    }

    private static void marksAreFullAtSix() {
        due.says("`int mark(int i, int l, int x, int t, int y)`: A MARK: how many there are. BAD; FULL: 6.");
        StairSteps x = Houses.one();
        for (int n = 1; n <= 6; n++) due.is("25 mark " + n, x.mark(0, 1, 0, 17, 1), n);
        due.is("25 a seventh", x.mark(0, 1, 0, 17, 9), StairSteps.FULL);
        due.is("25 still six", x.count(7), 6);
        due.is("25 the seventh does not count", x.kinds(0), 63);
        due.full("25 a seventh", Houses::full, y -> y.mark(0, 1, 0, 0, 0));
        due.is("25 there were", x.forget(2), 6);
        for (int n = 1; n <= 6; n++) due.is("25 begun anew, mark " + n, x.mark(0, 4, 0, 18, 5), n);
        due.is("25 begun anew, a seventh", x.mark(0, 4, 0, 18, 5), StairSteps.FULL);
        due.is("25 begun anew, the kind", x.kinds(0), 1 << 4);
    }

    private static void stridesAreRefused() {
        due.says("`int strides(int i, int k)`: A STRIDE: the STEP then (a FALL: 0). BAD: k below 1, above 9; NO: one is OVER, STRIDES not so far.");
        due.answers("8 as far as one strides", Houses::one, x -> x.strides(0, 4), 4);
        due.no("8 one step farther", Houses::one, x -> x.strides(0, 5));
        due.no("8 by 9", Houses::one, x -> x.strides(0, 9));
        due.bad("8 by 10", Houses::one, x -> x.strides(0, 10));
        due.bad("8 by 0", Houses::one, x -> x.strides(0, 0));
        due.no("8 over, by 1", Houses::over, x -> x.strides(0, 1));
        due.no("8 over, by 4", Houses::over, x -> x.strides(0, 4));
        due.no("8 over and too far", Houses::over, x -> x.strides(0, 9));
        due.answers("8 at 10 one strides yet", RefusedTest::belowTheTop, x -> x.strides(0, 4), 11);
        due.no("8 on a stair full of people", Houses::full, x -> x.strides(1, 4));
    }

    private static StairSteps belowTheTop() {
        StairSteps x = Houses.one();
        x.strides(0, 4);
        x.strides(0, 3);
        x.strides(0, 3);
        return x;
    }

    private static void beginningAnewIsRefused() {
        due.says("`int begins(int i)`: One begins anew: the STEP where one was. BAD; NO: one is at the foot.");
        due.no("9 at the foot", Houses::one, x -> x.begins(0));
        due.no("9 at the foot again", Houses::full, x -> x.begins(1));
        due.answers("9 at 1", () -> strode(1), x -> x.begins(0), 1);
        due.answers("9 at 10", RefusedTest::belowTheTop, x -> x.begins(0), 10);
        due.answers("9 at 11", Houses::over, x -> x.begins(0), 11);
        due.no("9 behind a fall", () -> fallen(), x -> x.begins(0));
    }

    private static StairSteps strode(int k) {
        StairSteps x = Houses.one();
        x.strides(0, k);
        return x;
    }

    private static StairSteps fallen() {
        StairSteps x = strode(4);
        x.strides(0, 1);
        return x;
    }

    private static void loadsAreRefused() {
        due.says("`int loads(int i, int x)`: LOAD: what it was. BAD; NO: it is so.");
        due.no("10 none at first", Houses::one, x -> x.loads(0, 0));
        for (int load = 1; load <= 9; load++) {
            int as = load;
            due.no("10 " + as + " is so", () -> loaded(as), x -> x.loads(0, as));
            due.answers("10 one less than " + as, () -> loaded(as), x -> x.loads(0, as - 1), as);
        }
    }

    private static StairSteps loaded(int load) {
        StairSteps x = Houses.one();
        x.loads(0, load);
        return x;
    }

    private static void salesAreRefused() {
        due.says("`int sells(int f, int s)`: A STEP is sold: the OWNER's is s (1 .. 10) then: which it was. BAD; NO: it is so.");
        for (int step = 1; step <= 10; step++) {
            int s = step;
            due.no("11 " + s + " is so", () -> Due.with(1, s, 0, 4), x -> x.sells(0, s));
            due.answers("11 another than " + s, () -> Due.with(1, s, 0, 4), x -> x.sells(0, 11 - s), s);
        }
        due.no("11 it is so since it was sold", Houses::lived, x -> x.sells(1, 7));
    }

    private static void undoIsRefused() {
        due.says("`int undo()`: UNDO: the HOUR then. NO: none may be.");
        due.no("13 of a new one", Houses::empty, StairSteps::undo);
        due.no("13 behind a goer", Houses::one, StairSteps::undo);
        due.no("13 all is undone", RefusedTest::undone, StairSteps::undo);
    }

    private static StairSteps undone() {
        StairSteps x = Houses.full();
        for (int n = 0; n < 8; n++) x.undo();
        return x;
    }

    private static void imagesAreRefused() {
        due.says("`int from(int i)`: It goes on from an IMAGE: 1. BAD; NO: none was kept.");
        due.no("36 none, 0", Houses::empty, x -> x.from(0));
        due.no("36 none, 1", Houses::empty, x -> x.from(1));
        due.answers("36 the one that was kept", Houses::lived, x -> x.from(0), 1);
        due.no("36 the other one", Houses::lived, x -> x.from(1));
        due.answers("36 kept of an empty one", () -> kept(Houses.empty(), 1), x -> x.from(1), 1);
        due.no("36 the other one of an empty one", () -> kept(Houses.empty(), 1), x -> x.from(0));
    }

    private static StairSteps kept(StairSteps x, int i) {
        x.image(i);
        return x;
    }

    private static void pairsAreRefused() {
        due.says("`int meets(int i, int j)`: MEET. NONE. BAD: alike, unlike FLIGHTS, too.");
        for (int i = 0; i < 6; i++) {
            int as = i;
            due.bad("20 alike " + i, Houses::full, x -> x.meets(as, as));
        }
        due.bad("20 unlike flights", Houses::full, x -> x.meets(0, 2));
        due.bad("20 unlike flights, the other way", Houses::full, x -> x.meets(2, 0));
        due.bad("20 unlike flights, the last", Houses::full, x -> x.meets(5, 4));
        due.bad("20 both are not there", Houses::full, x -> x.meets(6, 7));
        due.says("`int gap(int a, int b)`: GAP, as bits. BAD: alike, too.");
        for (int i = 0; i < 6; i++) {
            int as = i;
            due.bad("31 alike " + i, Houses::full, x -> x.gap(as, as));
        }
        due.onlyLooks("31 of unlike flights", Houses::full, x -> x.gap(5, 0), 6);
        due.bad("31 both are not there", Houses::full, x -> x.gap(-1, 6));
    }

    private static void badComesAheadOfNo() {
        due.says("Refused, changing nothing but STATUS, the first of: BAD -2 a number is not as told; NO -3 as told; FULL -4");
        due.bad("8 over, by 0", Houses::over, x -> x.strides(0, 0));
        due.bad("8 over, by 10", Houses::over, x -> x.strides(0, 10));
        due.bad("8 nobody, too far", Houses::one, x -> x.strides(1, 9));
        due.bad("9 nobody", Houses::one, x -> x.begins(1));
        due.bad("10 nobody, as it is", Houses::one, x -> x.loads(1, 0));
        due.bad("11 no flight, as it is", Houses::one, x -> x.sells(1, 5));
        due.bad("36 no such image", Houses::empty, x -> x.from(2));
    }

    private static void badComesAheadOfFull() {
        due.bad("3 kind", Houses::full, x -> x.flight(6, 1));
        due.bad("3 step", Houses::full, x -> x.flight(0, 11));
        due.bad("4 kind", Houses::full, x -> x.goer(6, 1, 0));
        due.bad("4 legs", Houses::full, x -> x.goer(0, 5, 0));
        due.bad("4 flight", Houses::full, x -> x.goer(0, 1, 3));
        due.bad("5 byte", Houses::fullText, x -> x.type(128));
        due.bad("5 byte below", Houses::fullText, x -> x.type(-1));
        due.bad("21 flight", Houses::full, x -> x.seen(3, 1, 0, 0));
        due.bad("21 step", Houses::full, x -> x.seen(0, 11, 0, 0));
        due.bad("21 hour", Houses::full, x -> x.seen(0, 1, 24, 0));
        due.bad("21 barred", Houses::full, x -> x.seen(0, 1, 0, 2));
        due.bad("24 flight", Houses::full, x -> x.note(3, 0, 0));
        due.bad("24 hour", Houses::full, x -> x.note(0, 24, 0));
        due.bad("24 steps", Houses::full, x -> x.note(0, 0, 10));
        due.bad("25 goer", Houses::full, x -> x.mark(6, 1, 0, 0, 0));
        due.bad("25 legs", Houses::full, x -> x.mark(0, 0, 0, 0, 0));
        due.bad("25 load", Houses::full, x -> x.mark(0, 1, 10, 0, 0));
        due.bad("25 hour", Houses::full, x -> x.mark(0, 1, 0, 24, 0));
        due.bad("25 strode", Houses::full, x -> x.mark(0, 1, 0, 0, 10));
    }

    /** All the numbers of a call are wrong: it is one call that was refused. */
    private static void eachRefusalCountsOnce() {
        due.says("STATUS: how many calls were refused as BAD, NO, FULL (each answer told so below is such a one).");
        due.bad("3", Houses::full, x -> x.flight(MIN, MAX));
        due.bad("4", Houses::full, x -> x.goer(MAX, MIN, MAX));
        due.bad("8", Houses::full, x -> x.strides(MIN, MAX));
        due.bad("10", Houses::full, x -> x.loads(MAX, MIN));
        due.bad("11", Houses::full, x -> x.sells(MAX, MIN));
        due.bad("14", Houses::full, x -> x.of(MIN, MIN));
        due.bad("15", Houses::full, x -> x.about(MAX, MAX));
        due.refused("16", Houses::full, x -> x.up(MAX, MIN), -10, Due.BAD);
        due.bad("18", Houses::full, x -> x.soon(MAX, MIN));
        due.bad("19", Houses::full, x -> x.site(MAX, MIN));
        due.bad("20", Houses::full, x -> x.meets(MAX, MAX));
        due.bad("21", Houses::full, x -> x.seen(MIN, MAX, MIN, MAX));
        due.bad("24", Houses::full, x -> x.note(MIN, MAX, MIN));
        due.bad("25", Houses::full, x -> x.mark(MAX, MIN, MAX, MIN, MAX));
        due.bad("31", Houses::full, x -> x.gap(MIN, MIN));
        due.bad("32", Houses::full, x -> x.dark(MAX, MIN, MAX));
        due.bad("33", Houses::full, x -> x.years(MIN, MAX));
    }

    /** NONE, what up answers for none and for not so many, and a FAULT are told, but not as BAD, NO or FULL. */
    private static void nothingElseIsRefused() {
        Due.Made stuck = () -> Due.with(0, 5, 0, 1);
        due.onlyLooks("16 none", stuck, x -> x.up(0, 0), -6);
        due.onlyLooks("16 not so many", Houses::one, x -> x.up(0, 3), -5);
        due.onlyLooks("18 none", stuck, x -> x.soon(0, 0), StairSteps.NONE);
        due.onlyLooks("20 none", () -> two(), x -> x.meets(0, 1), StairSteps.NONE);
        due.onlyLooks("7 a fault", Houses::one, StairSteps::read, -10);
        due.answers("23 none", () -> unlike(), x -> x.tell(0), StairSteps.NONE);
        due.answers("28 none", () -> unlike(), x -> x.look(0), StairSteps.NONE);
        due.answers("30 none", () -> unlike(), x -> x.ask(0), StairSteps.NONE);
    }

    private static StairSteps two() {
        StairSteps x = Due.with(0, 5, 0, 1);
        x.goer(0, 4, 0);
        return x;
    }

    /** What was seen, noted and marked can not be so together. */
    private static StairSteps unlike() {
        StairSteps x = Houses.one();
        for (int n = 0; n < 2; n++) {
            x.seen(0, 1, 1, n);
            x.note(0, 1, n);
            x.mark(0, 1, 0, 1, n);
        }
        return x;
    }
}
