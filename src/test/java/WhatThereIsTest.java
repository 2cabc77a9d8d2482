/** Promises 34 to 39: part, image, from, status, count, digest; and the constants. */
public final class WhatThereIsTest {
    private static final Due due = new Due("WhatThereIsTest");

    public static void main(String[] args) {
        constantsAreAsTold();
        partTellsTheFraction();
        imagesKeepAll();
        imagesKeepNoTextFractionStatus();
        imagesAreTwo();
        statusCountsRefusals();
        countTellsHowMany();
        digestMixesAll();
        due.end();
    }

    private static void constantsAreAsTold() {
        due.is("NONE", StairSteps.NONE, -1);
        due.is("BAD", StairSteps.BAD, -2);
        due.is("NO", StairSteps.NO, -3);
        due.is("FULL", StairSteps.FULL, -4);
    }

    private static void partTellsTheFraction() {
        StairSteps x = Due.with(0, 2, 0, 2);
        due.is("34 above at first", x.part(0), 0);
        due.is("34 below at first", x.part(1), 1);
        x.dark(0, 1, 5);
        due.is("34 above", x.part(0), 1);
        due.is("34 below", x.part(1), 2);
        due.is("34 another", x.part(2), StairSteps.BAD);
        due.is("34 another below", x.part(-1), StairSteps.BAD);
        due.is("34 counts as bad", x.status(0), 2);
    }

    private static StairSteps busy() {
        StairSteps x = Due.with(0, 5, 2, 4);
        x.goer(4, 3, 0);
        x.hours(4);
        x.strides(0, 4);
        x.strides(0, 1);
        x.strides(1, 3);
        x.loads(1, 7);
        x.sells(0, 9);
        x.seen(0, 3, 14, 1);
        x.note(0, 15, 2);
        x.mark(1, 3, 5, 16, 8);
        return x;
    }

    private static void imagesKeepAll() {
        StairSteps x = busy();
        long before = x.digest();
        due.is("35 kept", x.image(0), 1);
        due.is("35 nothing is changed", x.digest(), before);
        x.hours(50);
        x.begins(1);
        x.flight(3, 3);
        x.goer(1, 1, 1);
        x.forget(0);
        x.forget(1);
        x.forget(2);
        due.is("36 it goes on", x.from(0), 1);
        due.is("36 all is back", x.digest(), before);
        due.is("36 what may be undone, too", x.undo(), 4);
        due.is("36 step of the owner", x.about(0, 1), 5);
        x.undo();
        due.is("36 load", x.of(1, 4), 0);
        x.tenement();
        due.is("36 again", x.from(0), 1);
        due.is("36 all is back again", x.digest(), before);
        x.hours(1);
        x.forget(0);
        x.seen(0, 7, 7, 0);
        x.forget(1);
        x.note(0, 7, 7);
        x.forget(2);
        x.mark(0, 2, 2, 2, 2);
        for (int n = 0; n < 9; n++) x.hours(7);
        due.is("36 apart from the image", x.from(0), 1);
        due.is("36 all is back, too", x.digest(), before);
        for (int n = 0; n < 5; n++) x.undo();
        due.is("36 what may be undone is back, too", x.undo(), 0);
    }

    private static void imagesKeepNoTextFractionStatus() {
        StairSteps x = Due.with(0, 2, 0, 2);
        x.image(1);
        x.type(97);
        x.dark(0, 1, 3);
        x.hours(0);
        x.from(1);
        due.is("36 the text stays", x.count(9), 1);
        due.is("36 the fraction stays", x.part(0), 7);
        due.is("36 status stays", x.status(0), 1);
    }

    private static void imagesAreTwo() {
        StairSteps x = new StairSteps();
        due.is("35 below", x.image(-1), StairSteps.BAD);
        due.is("35 above", x.image(2), StairSteps.BAD);
        due.is("36 below", x.from(-1), StairSteps.BAD);
        due.is("36 above", x.from(2), StairSteps.BAD);
        due.is("36 none was kept", x.from(0), StairSteps.NO);
        x.hours(1);
        x.image(0);
        due.is("36 the other was not", x.from(1), StairSteps.NO);
        x.hours(1);
        x.image(1);
        x.hours(1);
        x.from(0);
        due.is("36 the first", x.count(3), 1);
        x.from(1);
        due.is("36 the second", x.count(3), 2);
        x.image(0);
        x.hours(9);
        x.from(0);
        due.is("35 kept anew", x.count(3), 2);
    }

    private static void statusCountsRefusals() {
        StairSteps x = new StairSteps();
        due.is("37 another", x.status(3), -1);
        due.is("37 below", x.status(-1), -1);
        due.is("37 they count as bad", x.status(0), 2);
        x.undo();
        due.is("37 no", x.status(1), 1);
        for (int n = 0; n < 4; n++) x.flight(0, 1);
        due.is("37 full", x.status(2), 1);
        x.goer(0, 1, 0);
        x.up(0, 0);
        x.up(0, -1);
        x.soon(0, 0);
        x.meets(0, 0);
        x.read();
        due.is("37 no more than told", x.status(0), 3);
        due.is("37 no no more", x.status(1), 1);
        x.up(1, 0);
        due.is("37 by up, too", x.status(0), 4);
        x.tenement();
        due.is("37 it stays", x.status(0) * 100 + x.status(1) * 10 + x.status(2), 411);
    }

    private static void countTellsHowMany() {
        StairSteps x = busy();
        x.type(97);
        due.is("38 below", x.count(-1), StairSteps.BAD);
        due.is("38 above", x.count(10), StairSteps.BAD);
        long[] want = {2, 1, 0, 4, 1, 1, 1, 1, 6, 1};
        for (int what = 0; what <= 9; what++) due.is("38 count " + what, x.count(what), want[what]);
        x.sells(0, 5);
        x.strides(1, 1);
        x.strides(1, 3);
        x.strides(1, 3);
        x.strides(1, 3);
        due.is("38 over", x.count(2), 1);
    }

    private static long mix(long... values) {
        long h = 1777;
        for (long v : values) h = 31 * h + v;
        return h;
    }

    private static void digestMixesAll() {
        due.is("39 new", new StairSteps().digest(), mix(0, 0, 0, 0, 0, 0, 0, 0, 0, 0, 0, 1));
        StairSteps x = busy();
        x.dark(1, 0, 0);
        long want = mix(2, 1, 0, 4, 1, 1, 1, 1, 6, 0, 0, 9, 2, 4, 0, 0, 0, 4, 3, 0, 3, 7,
            0, 3, 14, 1, 0, 15, 2, 1, 3, 5, 16, 8, 1, 1);
        due.is("39 of all", x.digest(), want);
        due.is("39 nothing is changed", x.digest(), want);
        x.count(10);
        due.is("39 not of status", x.digest(), want);
        x.flight(3, 3);
        due.is("39 two flights", x.digest(), mix(2, 2, 0, 4, 1, 1, 1, 1, 0, 0, 0, 9, 3, 3, 2, 4, 0, 0, 0, 4, 3, 0, 3, 7,
            0, 3, 14, 1, 0, 15, 2, 1, 3, 5, 16, 8, 1, 1));
    }
}
