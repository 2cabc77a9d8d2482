/** Strides, falls, hours, steps sold, undone: what is at the foot, at the top, at the last hour, at the eighth. */
public final class StairEdgesTest {
    private static final Due due = new Due("StairEdgesTest");

    public static void main(String[] args) {
        allIsAsAtFirst();
        goersComeAsTold();
        stridesEndAtEleven();
        elevenIsNeverBarred();
        aBarredStepIsAFall();
        theHourOfTheStrideCounts();
        whoIsOverMayBeginAnew();
        whoSitsOnABarredStepStays();
        hoursStayAtTheLast();
        hoursAreUndoneTogether();
        eachSortIsUndone();
        eightMayBeUndone();
        undoneAndDoneAgain();
        flightsAndGoersEndUndo();
        looksAndNotesAreNotUndone();
        due.end();
    }

    private static void allIsAsAtFirst() {
        due.says("`StairSteps()`: As told; nobody is there.");
        StairSteps x = new StairSteps();
        for (int what = 0; what <= 9; what++) due.is("1 count " + what, x.count(what), 0);
        for (int what = 0; what <= 2; what++) due.is("1 status " + what, x.status(what), 0);
        due.is("1 stuck", x.stuck(), 0);
        due.is("1 years", x.years(1, 60), 0);
        due.is("1 the text", x.clear(), 0);
        due.is("1 goers there were", x.tenement(), 0);
        for (int what = 0; what <= 2; what++) due.is("1 forget " + what, x.forget(what), 0);
        due.says("THE FRACTION is 0 by 1 at first");
        due.is("34 above", x.part(0), 0);
        due.is("34 below", x.part(1), 1);
        due.is("nothing was refused", x.status(0) + x.status(1) + x.status(2), 0);
    }

    private static void goersComeAsTold() {
        due.says("GOERS 0 .. 5, as they come: a KIND, LEGS (1 .. 4), a FLIGHT; LOAD (0 .. 9; 0 at first), STEP (0 at first).");
        StairSteps x = Houses.full();
        x.tenement();
        x.flight(1, 2);
        for (int i = 0; i < 6; i++) {
            x.goer(i, 1 + i % 4, 0);
            due.is("4 load of " + i, x.of(i, 4), 0);
            due.is("4 step of " + i, x.of(i, 3), 0);
        }
        due.says("FALLS (0 .. 9999; 0 at first)");
        due.is("38 falls", x.count(4), 0);
        due.says("HOURS have numbers, 0 at first (9999 at most)");
        due.is("38 the hour", x.count(3), 0);
    }

    private static StairSteps at(int step, int legs, int ownerStep) {
        StairSteps x = Due.with(5, ownerStep, 0, legs);
        for (int n = 0; n < step; n++) x.strides(0, 1);
        return x;
    }

    private static void stridesEndAtEleven() {
        due.says("STEPS of a FLIGHT are 0 (the foot) to 11 (the top; OVER).");
        for (int k = 1; k <= 4; k++) {
            for (int step = 0; step <= 10; step++) {
                StairSteps x = at(step, 4, 1);
                due.is("8 by " + k + " from " + step, x.strides(0, k), Math.min(11, step + k));
                due.is("8 where one is then", x.of(0, 3), Math.min(11, step + k));
                due.is("38 over", x.count(2), step + k >= 11 ? 1 : 0);
                due.is("8 no fall", x.count(4), 0);
            }
        }
        StairSteps x = Houses.empty();
        x.flight(5, 1);
        for (int i = 0; i < 6; i++) x.goer(0, 4, 0);
        for (int i = 0; i < 6; i++) {
            for (int n = 0; n < 3; n++) x.strides(i, 4);
            due.is("38 over, " + (i + 1), x.count(2), i + 1);
        }
    }

    private static void elevenIsNeverBarred() {
        due.says("if that STEP is BARRED (11 never is), it is a FALL: the GOER is at STEP 0, FALLS are one more; the HOUR stays.");
        for (int step = 8; step <= 10; step++) {
            StairSteps x = Due.atHour(Due.with(3, step, 0, 4), 9);
            x.strides(0, 4);
            x.strides(0, 3);
            due.is("8 the lady at " + step + " bars no top", x.strides(0, 4), 11);
            due.is("15 she bars to 10", x.about(0, 2), 0x7FF >> step << step);
        }
    }

    private static void aBarredStepIsAFall() {
        for (int step = 1; step <= 10; step++) {
            StairSteps x = Due.with(0, step, 0, 1);
            x.hours(30);
            for (int n = 1; n < step; n++) due.is("8 below " + step, x.strides(0, 1), n);
            due.is("8 on to " + step, x.strides(0, 1), 0);
            due.is("8 at the foot", x.of(0, 3), 0);
            due.is("8 one fall", x.count(4), 1);
            due.is("8 the hour stays", x.count(3), 30);
            due.is("8 it may be undone", x.count(8), Math.min(8, 1 + step));
            for (int n = 1; n < step; n++) x.strides(0, 1);
            x.strides(0, 1);
            due.is("8 two falls", x.count(4), 2);
        }
        StairSteps lady = Due.with(3, 4, 0, 4);
        lady.hours(9);
        for (int k = 1; k <= 4; k++) {
            lady.strides(0, 3);
            due.is("8 over three barred ones by " + k, lady.strides(0, k), k == 4 ? 7 : 0);
        }
        due.is("8 three falls", lady.count(4), 3);
        due.is("8 one passes under it", lady.of(0, 3), 7);
    }

    private static void theHourOfTheStrideCounts() {
        StairSteps x = Due.with(5, 1, 0, 1);
        due.is("8 at 0 nobody sits", x.strides(0, 1), 1);
        x.begins(0);
        x.hours(4);
        due.is("8 nor at 4", x.strides(0, 1), 1);
        x.begins(0);
        x.hours(1);
        due.is("8 at 5 he does", x.strides(0, 1), 0);
        x.hours(18);
        due.is("8 and at 23", x.strides(0, 1), 0);
        x.hours(1);
        due.is("8 not at 24", x.strides(0, 1), 1);
    }

    private static void whoIsOverMayBeginAnew() {
        due.says("Who is OVER strides no more, but may begin anew (STEP 0).");
        StairSteps x = Houses.over();
        for (int k = 1; k <= 9; k++) due.is("8 over, by " + k, x.strides(0, k), StairSteps.NO);
        due.is("8 stays over", x.of(0, 3), 11);
        due.is("9 from the top", x.begins(0), 11);
        due.is("9 at the foot", x.of(0, 3), 0);
        due.is("9 nobody is over", x.count(2), 0);
        due.is("8 strides again", x.strides(0, 4), 4);
    }

    private static void whoSitsOnABarredStepStays() {
        StairSteps x = Houses.one();
        x.strides(0, 4);
        x.sells(0, 4);
        due.is("11 the step under one is sold", x.of(0, 3), 4);
        due.is("11 no fall", x.count(4), 0);
        due.is("11 one strides on", x.strides(0, 1), 5);
    }

    private static StairSteps lastHours(StairSteps x, int hour) {
        int left = hour;
        for (; left > 99; left -= 99) x.hours(99);
        if (left > 0) x.hours(left);
        return x;
    }

    private static void hoursStayAtTheLast() {
        due.says("`int hours(int n)`: n HOURS go by (1 .. 99; together one that may be undone; 9999 stays): the HOUR. BAD.");
        StairSteps x = lastHours(new StairSteps(), 9998);
        due.is("12 one less", x.count(3), 9998);
        due.is("12 to the last", x.hours(1), 9999);
        due.is("12 it stays", x.hours(1), 9999);
        due.is("12 it stays by 99", x.hours(99), 9999);
        due.is("12 nothing was refused", x.status(0) + x.status(1) + x.status(2), 0);
        due.is("12 eight may be undone", x.count(8), 8);
        due.is("13 to the last again", x.undo(), 9999);
        due.is("13 and again", x.undo(), 9999);
        due.is("13 one less", x.undo(), 9998);
        due.is("12 two more", x.hours(2), 9999);
        due.is("13 one less again", x.undo(), 9998);
        due.is("12 99 more", x.hours(99), 9999);
        StairSteps lady = lastHours(Due.with(3, 4, 5, 4), 9901);
        due.is("12 98 more are the last", lady.hours(98), 9999);
        due.is("15 9999 is 15 of a day", lady.about(0, 2), 7 << 4);
        lady.hours(3);
        due.is("15 and stays so", lady.about(0, 2), 7 << 4);
        StairSteps more = lastHours(new StairSteps(), 9901);
        due.is("12 99 more are no more", more.hours(99), 9999);
    }

    private static void hoursAreUndoneTogether() {
        StairSteps x = new StairSteps();
        for (int n = 1; n <= 99; n += 14) {
            int was = x.count(3), many = x.count(8);
            due.is("12 " + n + " hours", x.hours(n), was + n);
            due.is("12 one that may be undone", x.count(8), many + 1);
            due.is("13 undone together", x.undo(), was);
            due.is("13 the hour", x.count(3), was);
            x.hours(1);
        }
    }

    private static void undoes(String what, Due.Made made, Due.Call call) {
        StairSteps x = made.make();
        long before = x.digest();
        int many = x.count(8), hour = x.count(3);
        call.on(x);
        due.is("13 " + what + " may be undone", x.count(8), many + 1);
        due.holds("13 " + what + " changes something", x.digest() != before);
        due.is("13 " + what + " undone", x.undo(), hour);
        due.is("13 " + what + ", all is as before", x.digest(), before);
        due.is("13 " + what + " nothing was refused", x.status(0), made.make().status(0));
    }

    private static void eachSortIsUndone() {
        due.says("UNDO: STEPS, LOADS of GOERS, FALLS, the HOUR, STEPS of OWNERS as ahead of the last STRIDE, LOAD, beginning anew, STEP sold, HOURS gone by");
        Due.Made[] houses = {Houses::lived, StairEdgesTest::manyAtThree};
        for (Due.Made made : houses) {
            undoes("a stride", made, x -> x.strides(0, 2));
            undoes("a load", made, x -> x.loads(1, 9));
            undoes("beginning anew", made, x -> x.begins(2));
            undoes("a step sold", made, x -> x.sells(1, 1));
            undoes("hours", made, x -> x.hours(99));
        }
        undoes("a fall", Houses::lived, x -> x.strides(1, 3));
        undoes("the last one over", StairEdgesTest::manyAtThree, x -> x.strides(5, 4));
        undoes("the last one's load", StairEdgesTest::manyAtThree, x -> x.loads(5, 9));
        undoes("the last flight's step", StairEdgesTest::manyAtThree, x -> x.sells(2, 10));
    }

    /** Three flights and six goers, the last of whom is at 8. */
    private static StairSteps manyAtThree() {
        StairSteps x = new StairSteps();
        for (int f = 0; f < 3; f++) x.flight(5, 5 + f);
        for (int i = 0; i < 6; i++) x.goer(0, 4, i % 3);
        x.strides(2, 3);
        x.strides(5, 4);
        x.strides(5, 4);
        return x;
    }

    private static void eightMayBeUndone() {
        due.says("(8 at most; behind a FLIGHT, a GOER that comes none may be)");
        for (int many = 0; many <= 20; many++) {
            StairSteps x = new StairSteps();
            for (int n = 1; n <= many; n++) x.hours(n);
            int back = Math.min(8, many), hour = many * (many + 1) / 2;
            due.is("38 that may be undone of " + many, x.count(8), back);
            for (int n = 0; n < back; n++) {
                hour -= many - n;
                due.is("13 undone of " + many, x.undo(), hour);
                due.is("38 that may be undone then", x.count(8), back - n - 1);
            }
            due.is("13 no more of " + many, x.undo(), StairSteps.NO);
            due.is("13 the hour stays", x.count(3), hour);
        }
    }

    private static void undoneAndDoneAgain() {
        StairSteps x = new StairSteps();
        for (int n = 0; n < 9; n++) x.hours(10);
        for (int n = 0; n < 3; n++) x.undo();
        due.is("13 five are left", x.count(8), 5);
        for (int n = 0; n < 4; n++) x.hours(1);
        due.is("13 eight again", x.count(8), 8);
        int[] want = {63, 62, 61, 60, 50, 40, 30, 20};
        for (int hour : want) due.is("13 to " + hour, x.undo(), hour);
        due.is("13 none", x.undo(), StairSteps.NO);
    }

    private static void flightsAndGoersEndUndo() {
        StairSteps x = Houses.lived();
        due.holds("13 some may be undone", x.count(8) > 0);
        x.goer(0, 1, 0);
        due.is("13 behind a goer none", x.count(8), 0);
        due.is("13 behind a goer", x.undo(), StairSteps.NO);
        x.hours(1);
        due.is("13 then one", x.count(8), 1);
        x.flight(0, 1);
        due.is("13 behind a flight none", x.count(8), 0);
        due.is("13 behind a flight", x.undo(), StairSteps.NO);
        x.hours(1);
        x.flight(0, 1);
        x.goer(0, 1, 0);
        due.is("13 refused ones do not come", x.count(8), 1);
        x.flight(0, 0);
        x.goer(0, 0, 0);
        due.is("13 nor do bad ones", x.undo(), 13);
        due.is("13 that was the one", x.undo(), StairSteps.NO);
        StairSteps all = Houses.lived();
        all.tenement();
        due.is("13 behind a tenement", all.undo(), StairSteps.NO);
    }

    private static void looksAndNotesAreNotUndone() {
        StairSteps x = Houses.lived();
        int many = x.count(8);
        x.seen(0, 1, 1, 0);
        x.note(0, 1, 1);
        x.mark(0, 1, 1, 1, 1);
        x.type('x');
        x.dark(0, 6, 5);
        x.image(1);
        due.is("13 no more may be undone", x.count(8), many);
        x.undo();
        due.is("13 seen ones stay", x.count(5), 5);
        due.is("13 notes stay", x.count(6), 6);
        due.is("13 marks stay", x.count(7), 6);
        due.is("13 the text stays", x.count(9), Houses.TEXT.length() + 1);
        for (int what = 0; what <= 2; what++) x.forget(what);
        due.is("13 to forget is not undone", x.count(8), many - 1);
        x.undo();
        due.is("13 what is forgotten stays so", x.count(5) + x.count(6) + x.count(7), 0);
        due.is("13 the other image is kept", x.from(1), 1);
        due.is("13 with all that may be undone", x.count(8), many);
    }
}
