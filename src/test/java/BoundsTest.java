/** Each number of each call: the last value that is allowed and the first that is not, at either end. */
public final class BoundsTest {
    private static final Due due = new Due("BoundsTest");

    public static void main(String[] args) {
        due.says("BAD -2 a number is not as told");
        flightsAndGoers();
        theText();
        stridesAndHours();
        looksAtGoersAndFlights();
        up();
        whoseItWas();
        kindsAndChances();
        whatThereIs();
        flightsThatAreThere();
        goersThatAreThere();
        due.end();
    }

    /** From least to most the call is allowed; what it answers there is told at both ends. */
    private static void within(String what, Due.Made made, Due.CallBy call, int least, int most, long first, long last) {
        due.answers(what + " of " + least, made, x -> call.on(x, least), first);
        due.answers(what + " of " + most, made, x -> call.on(x, most), last);
        beyond(what, made, call, least, most, StairSteps.BAD);
    }

    private static void beyond(String what, Due.Made made, Due.CallBy call, int least, int most, long answer) {
        int[] wrong = {least - 1, most + 1, Integer.MIN_VALUE, Integer.MAX_VALUE};
        for (int n : wrong) due.refused(what + " of " + n, made, x -> call.on(x, n), answer, Due.BAD);
    }

    private static void flightsAndGoers() {
        due.says("2, as they come: an OWNER of a KIND, his STEP (1 .. 10).");
        within("3 kind of an owner", Houses::lived, (x, n) -> x.flight(n, 5), 0, 5, 2, 2);
        within("3 step of an owner", Houses::lived, (x, n) -> x.flight(3, n), 1, 10, 2, 2);
        within("4 kind of a goer", Houses::lived, (x, n) -> x.goer(n, 2, 1), 0, 5, 5, 5);
        within("4 legs", Houses::lived, (x, n) -> x.goer(1, n, 1), 1, 4, 5, 5);
        within("4 flight of a goer", Houses::lived, (x, n) -> x.goer(1, 2, n), 0, 1, 5, 5);
    }

    private static void theText() {
        int there = Houses.TEXT.length();
        within("5 byte", Houses::lived, (x, n) -> x.type(n), 0, 127, there + 1, there + 1);
    }

    private static void stridesAndHours() {
        due.answers("8 stride by 1", Houses::one, x -> x.strides(0, 1), 1);
        due.no("8 stride by 9", Houses::one, x -> x.strides(0, 9));
        beyond("8 stride", Houses::lived, (x, n) -> x.strides(1, n), 1, 9, StairSteps.BAD);
        within("10 load", Houses::lived, (x, n) -> x.loads(1, n), 0, 9, 4, 4);
        within("11 step sold", Houses::lived, (x, n) -> x.sells(1, n), 1, 10, 7, 7);
        within("12 hours", Houses::lived, (x, n) -> x.hours(n), 1, 99, 13, 111);
    }

    private static void looksAtGoersAndFlights() {
        within("14 of", Houses::lived, (x, n) -> x.of(1, n), 0, 5, 2, 3);
        within("15 about", Houses::lived, (x, n) -> x.about(1, n), 0, 2, 2, 3 << 7);
        within("18 soon", Houses::one, (x, n) -> x.soon(0, n), 0, 1, 0, 3);
        within("19 site", Houses::one, (x, n) -> x.site(0, n), 0, 1, 1, 3);
        beyond("18 soon", Houses::lived, (x, n) -> x.soon(0, n), 0, 1, StairSteps.BAD);
        beyond("19 site", Houses::lived, (x, n) -> x.site(0, n), 0, 1, StairSteps.BAD);
    }

    /** A k has no greatest value; NONE, which is -1, is the least one. */
    private static void up() {
        due.answers("16 k of -1", Houses::one, x -> x.up(0, -1), 3);
        due.answers("16 k of 0", Houses::one, x -> x.up(0, 0), 3);
        due.answers("16 k of 2", Houses::one, x -> x.up(0, 2), 4);
        due.answers("16 k of 3", Houses::one, x -> x.up(0, 3), -5);
        due.answers("16 k by far too many", Houses::one, x -> x.up(0, Integer.MAX_VALUE), -5);
        due.refused("16 k of -2", Houses::lived, x -> x.up(0, -2), -10, Due.BAD);
        due.refused("16 k by far below", Houses::lived, x -> x.up(0, Integer.MIN_VALUE), -10, Due.BAD);
    }

    private static void whoseItWas() {
        within("21 step", Houses::lived, (x, n) -> x.seen(0, n, 5, 1), 1, 10, 5, 5);
        within("21 hour", Houses::lived, (x, n) -> x.seen(0, 5, n, 1), 0, 23, 5, 5);
        within("21 barred", Houses::lived, (x, n) -> x.seen(0, 5, 5, n), 0, 1, 5, 5);
        within("24 hour", Houses::lived, (x, n) -> x.note(0, n, 1), 0, 23, 6, 6);
        within("24 steps", Houses::lived, (x, n) -> x.note(0, 1, n), 0, 9, 6, 6);
        within("25 legs", Houses::lived, (x, n) -> x.mark(0, n, 1, 1, 1), 1, 4, 6, 6);
        within("25 load", Houses::lived, (x, n) -> x.mark(0, 1, n, 1, 1), 0, 9, 6, 6);
        within("25 hour", Houses::lived, (x, n) -> x.mark(0, 1, 1, n, 1), 0, 23, 6, 6);
        within("25 strode", Houses::lived, (x, n) -> x.mark(0, 1, 1, 1, n), 0, 9, 6, 6);
        within("26 forget", Houses::lived, (x, n) -> x.forget(n), 0, 2, 4, 5);
        due.answers("26 forget of 1", Houses::lived, x -> x.forget(1), 5);
    }

    private static void kindsAndChances() {
        within("32 n", Houses::lived, (x, n) -> x.dark(2, n, 5), 0, 6, 1, 1);
        within("32 c", Houses::lived, (x, n) -> x.dark(2, 2, n), 0, 10, 1, 1);
        due.says("YEARS by a SEED (0 .. 999999), n (0 .. 60)");
        within("33 seed", Houses::empty, (x, n) -> x.years(n, 60), 0, 999999, 0, 0);
        within("33 n", Houses::empty, (x, n) -> x.years(5, n), 0, 60, 0, 0);
        beyond("33 seed", Houses::lived, (x, n) -> x.years(n, 5), 0, 999999, StairSteps.BAD);
        beyond("33 n", Houses::lived, (x, n) -> x.years(5, n), 0, 60, StairSteps.BAD);
    }

    private static void whatThereIs() {
        within("34 part", Houses::empty, (x, n) -> x.part(n), 0, 1, 0, 1);
        beyond("34 part", Houses::lived, (x, n) -> x.part(n), 0, 1, StairSteps.BAD);
        within("35 image", Houses::lived, (x, n) -> x.image(n), 0, 1, 1, 1);
        within("36 from", Houses::full, (x, n) -> x.from(n), 0, 1, 1, 1);
        within("38 count", Houses::lived, (x, n) -> x.count(n), 0, 9, 5, Houses.TEXT.length());
        due.says("-1: another what (counts as BAD).");
        due.answers("37 status of 0", Houses::lived, x -> x.status(0), 2);
        due.answers("37 status of 2", Houses::lived, x -> x.status(2), 1);
        beyond("37 status", Houses::lived, (x, n) -> x.status(n), 0, 2, -1);
    }

    /** None, one and all three flights: the one behind the last is not there. */
    private static void flightsThatAreThere() {
        due.says("BAD -2 a number is not as told");
        Due.CallBy[] calls = {
            (x, f) -> x.goer(0, 1, f), (x, f) -> x.sells(f, 9), (x, f) -> x.about(f, 0), (x, f) -> x.site(f, 0),
            (x, f) -> x.seen(f, 1, 1, 1), (x, f) -> x.whose(f), (x, f) -> x.tell(f), (x, f) -> x.note(f, 1, 1),
            (x, f) -> x.is(f), (x, f) -> x.look(f)};
        for (int n = 0; n < calls.length; n++) {
            String what = "the flight of call " + n;
            beyond(what + " with none", Houses::empty, calls[n], 0, -1, StairSteps.BAD);
            beyond(what + " with one", Houses::one, calls[n], 0, 0, StairSteps.BAD);
            beyond(what + " with two", Houses::lived, calls[n], 0, 1, StairSteps.BAD);
            beyond(what + " with three", Houses::full, calls[n], 0, 2, StairSteps.BAD);
            beyond(what + " that was", BoundsTest::left, calls[n], 0, -1, StairSteps.BAD);
            lastIsThere(what, calls[n], 2);
        }
    }

    private static void goersThatAreThere() {
        Due.CallBy[] calls = {
            (x, i) -> x.strides(i, 1), (x, i) -> x.begins(i), (x, i) -> x.loads(i, 8), (x, i) -> x.of(i, 0),
            (x, i) -> x.soon(i, 0), (x, i) -> x.meets(i, 0), (x, i) -> x.meets(0, i), (x, i) -> x.mark(i, 1, 1, 1, 1),
            (x, i) -> x.kinds(i), (x, i) -> x.ask(i), (x, i) -> x.gap(i, 0), (x, i) -> x.gap(0, i),
            (x, i) -> x.dark(i, 1, 1), (x, i) -> x.up(i, StairSteps.NONE), (x, i) -> x.up(i, 0)};
        for (int n = 0; n < calls.length; n++) {
            String what = "the goer of call " + n;
            long answer = n >= calls.length - 2 ? -10 : StairSteps.BAD;
            beyond(what + " with none", Houses::empty, calls[n], 0, -1, answer);
            beyond(what + " with one", Houses::one, calls[n], 0, 0, answer);
            beyond(what + " with five", Houses::lived, calls[n], 0, 4, answer);
            beyond(what + " with six", Houses::full, calls[n], 0, 5, answer);
            beyond(what + " who was", BoundsTest::left, calls[n], 0, -1, answer);
            if (n != 5 && n != 6) lastIsThere(what, calls[n], 5);
        }
    }

    /** Whatever else it answers, the last one is not refused as BAD. */
    private static void lastIsThere(String what, Due.CallBy call, int last) {
        StairSteps x = Houses.full();
        int bad = x.status(0);
        call.on(x, last);
        due.is(what + ", the last one", x.status(0), bad);
    }

    /** There were three flights and six goers, and are none. */
    private static StairSteps left() {
        StairSteps x = Houses.full();
        x.tenement();
        return x;
    }
}
