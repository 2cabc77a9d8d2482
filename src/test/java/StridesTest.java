/** Promises 8 to 15: strides, begins, loads, sells, hours, undo, of, about. */
public final class StridesTest {
    private static final Due due = new Due("StridesTest");

    public static void main(String[] args) {
        strideGoesUpOrFalls();
        strideIsRefused();
        whoIsOverBeginsAnew();
        loadsAreTaken();
        stepsAreSold();
        hoursGoBy();
        undoGivesBack();
        undoGoesBackEightTimes();
        flightsAndGoersEndUndo();
        ofTellsHowFarEachStrides();
        aboutTellsWhatIsBarred();
        due.end();
    }

    private static void strideGoesUpOrFalls() {
        StairSteps x = Due.with(0, 4, 0, 3);
        due.is("8 up by three", x.strides(0, 3), 3);
        due.is("8 on to the barred one", x.strides(0, 1), 0);
        due.is("8 a fall", x.count(4), 1);
        due.is("8 at the foot", x.of(0, 3), 0);
        due.is("8 the hour stays", x.count(3), 0);
        x.strides(0, 3);
        due.is("8 over it", x.strides(0, 2), 5);
        x.strides(0, 3);
        x.strides(0, 2);
        due.is("8 11 at most", x.strides(0, 3), 11);
        due.is("8 over", x.count(2), 1);
        due.is("8 no more falls", x.count(4), 1);
        StairSteps lady = Due.atHour(Due.with(3, 9, 0, 4), 9);
        lady.strides(0, 4);
        lady.strides(0, 4);
        due.is("8 eleven is never barred", lady.strides(0, 3), 11);
    }

    private static void strideIsRefused() {
        StairSteps x = new StairSteps();
        due.is("8 nobody", x.strides(0, 1), StairSteps.BAD);
        x = Due.with(0, 4, 0, 4);
        due.is("8 goer below", x.strides(-1, 1), StairSteps.BAD);
        due.is("8 goer above", x.strides(1, 1), StairSteps.BAD);
        due.is("8 k of 0", x.strides(0, 0), StairSteps.BAD);
        due.is("8 k of 10", x.strides(0, 10), StairSteps.BAD);
        due.is("8 not so far", x.strides(0, 5), StairSteps.NO);
        due.is("8 not so far by nine", x.strides(0, 9), StairSteps.NO);
        due.is("8 nothing to undo", x.count(8), 0);
        x.strides(0, 3);
        x.strides(0, 4);
        x.strides(0, 4);
        due.is("8 over", x.strides(0, 1), StairSteps.NO);
        due.is("8 bad ahead of no", x.strides(0, 10), StairSteps.BAD);
        due.is("8 refused as bad", x.status(0), 5);
        due.is("8 refused as no", x.status(1), 3);
    }

    private static void whoIsOverBeginsAnew() {
        StairSteps x = Due.with(0, 4, 0, 4);
        due.is("9 nobody", x.begins(1), StairSteps.BAD);
        due.is("9 below", x.begins(-1), StairSteps.BAD);
        due.is("9 at the foot", x.begins(0), StairSteps.NO);
        x.strides(0, 3);
        due.is("9 where one was", x.begins(0), 3);
        due.is("9 the foot", x.of(0, 3), 0);
        x.strides(0, 3);
        x.strides(0, 4);
        x.strides(0, 4);
        due.is("9 from the top", x.begins(0), 11);
        due.is("9 none is over", x.count(2), 0);
        due.is("9 strides again", x.strides(0, 1), 1);
    }

    private static void loadsAreTaken() {
        StairSteps x = Due.with(0, 4, 0, 4);
        due.is("10 nobody", x.loads(1, 1), StairSteps.BAD);
        due.is("10 below", x.loads(0, -1), StairSteps.BAD);
        due.is("10 above", x.loads(0, 10), StairSteps.BAD);
        due.is("10 it is so", x.loads(0, 0), StairSteps.NO);
        due.is("10 what it was", x.loads(0, 9), 0);
        due.is("10 what it was then", x.loads(0, 4), 9);
        due.is("10 load", x.of(0, 4), 4);
        due.is("10 may be undone", x.count(8), 2);
    }

    private static void stepsAreSold() {
        StairSteps x = Due.with(0, 4, 0, 4);
        due.is("11 no flight", x.sells(1, 1), StairSteps.BAD);
        due.is("11 the foot", x.sells(0, 0), StairSteps.BAD);
        due.is("11 the top", x.sells(0, 11), StairSteps.BAD);
        due.is("11 it is so", x.sells(0, 4), StairSteps.NO);
        due.is("11 which it was", x.sells(0, 10), 4);
        due.is("11 step", x.about(0, 1), 10);
        due.is("11 bars", x.about(0, 2), 1 << 10);
        due.is("11 may be undone", x.count(8), 1);
    }

    private static void hoursGoBy() {
        StairSteps x = new StairSteps();
        due.is("12 none", x.hours(0), StairSteps.BAD);
        due.is("12 below", x.hours(-1), StairSteps.BAD);
        due.is("12 too many", x.hours(100), StairSteps.BAD);
        due.is("12 one", x.hours(1), 1);
        due.is("12 together one", x.hours(99), 100);
        due.is("12 two may be undone", x.count(8), 2);
        for (int n = 2; n <= 100; n++) x.hours(99);
        due.is("12 near the end", x.count(3), 1 + 99 * 100);
        due.is("12 9999 at most", x.hours(99), 9999);
        due.is("12 9999 stays", x.hours(1), 9999);
        due.is("12 undone", x.undo(), 9999);
        due.is("12 undone again", x.undo(), 9901);
    }

    private static void undoGivesBack() {
        StairSteps x = Due.with(0, 4, 0, 4);
        due.is("13 none", x.undo(), StairSteps.NO);
        x.hours(7);
        x.strides(0, 3);
        x.loads(0, 5);
        x.sells(0, 7);
        x.strides(0, 4);
        due.is("13 a fall", x.count(4), 1);
        due.is("13 five", x.count(8), 5);
        due.is("13 the fall", x.undo(), 7);
        due.is("13 no fall", x.count(4), 0);
        due.is("13 where one was", x.of(0, 3), 3);
        x.undo();
        due.is("13 not sold", x.about(0, 1), 4);
        x.undo();
        due.is("13 no load", x.of(0, 4), 0);
        x.begins(0);
        x.undo();
        due.is("13 not begun anew", x.of(0, 3), 3);
        x.undo();
        due.is("13 at the foot", x.of(0, 3), 0);
        due.is("13 the hour", x.undo(), 0);
        due.is("13 none any more", x.undo(), StairSteps.NO);
    }

    private static void undoGoesBackEightTimes() {
        StairSteps x = new StairSteps();
        for (int n = 1; n <= 11; n++) x.hours(n);
        due.is("13 eight", x.count(8), 8);
        int hour = 66;
        for (int n = 11; n >= 4; n--) {
            hour -= n;
            due.is("13 back from " + n, x.undo(), hour);
        }
        due.is("13 no ninth", x.undo(), StairSteps.NO);
        due.is("13 six hours stay", x.count(3), 6);
    }

    private static void flightsAndGoersEndUndo() {
        StairSteps x = new StairSteps();
        x.hours(1);
        x.flight(0, 4);
        due.is("13 behind a flight", x.undo(), StairSteps.NO);
        x.hours(1);
        x.goer(0, 1, 0);
        due.is("13 behind a goer", x.undo(), StairSteps.NO);
        x.hours(1);
        x.flight(9, 9);
        x.goer(9, 9, 9);
        x.seen(0, 1, 1, 1);
        due.is("13 behind refused ones", x.undo(), 2);
        due.is("13 what was seen stays", x.count(5), 1);
    }

    private static void reach(int kind, int legs, int load, int t, int want) {
        StairSteps x = Due.atHour(Due.with(0, 1, kind, legs), t);
        if (load > 0) x.loads(0, load);
        due.is("14 kind " + kind + " legs " + legs + " load " + load + " hour " + t, x.of(0, 5), want);
    }

    private static void ofTellsHowFarEachStrides() {
        StairSteps x = Due.with(0, 4, 3, 2);
        due.is("14 nobody", x.of(1, 0), StairSteps.BAD);
        due.is("14 below", x.of(0, -1), StairSteps.BAD);
        due.is("14 above", x.of(0, 6), StairSteps.BAD);
        due.is("14 kind", x.of(0, 0), 3);
        due.is("14 legs", x.of(0, 1), 2);
        due.is("14 flight", x.of(0, 2), 0);
        for (int legs = 1; legs <= 4; legs++) {
            reach(0, legs, 9, 20, legs);
            reach(1, legs, 9, 20, (legs + 1) / 2);
            reach(2, legs, 2, 0, legs);
            reach(2, legs, 3, 0, Math.max(1, legs - 1));
            reach(2, legs, 9, 0, Math.max(1, legs - 3));
            reach(3, legs, 0, 0, Math.min(2, legs));
            reach(3, legs, 6, 0, legs == 4 ? 2 : 1);
            reach(3, legs, 9, 0, 1);
            reach(4, legs, 9, 17, legs);
            reach(4, legs, 9, 18, legs + 1);
            reach(4, legs, 9, 24, legs);
            reach(5, legs, 9, 7, 1);
            reach(5, legs, 9, 8, (legs + 1) / 2);
            reach(5, legs, 9, 31, 1);
        }
    }

    private static void bars(int kind, int step, int t, int want) {
        StairSteps x = new StairSteps();
        x.flight(kind, step);
        Due.atHour(x, t);
        due.is("15 kind " + kind + " step " + step + " hour " + t, x.about(0, 2), want);
    }

    private static void aboutTellsWhatIsBarred() {
        StairSteps x = new StairSteps();
        due.is("15 no flight", x.about(0, 0), StairSteps.BAD);
        x.flight(4, 7);
        due.is("15 below", x.about(0, -1), StairSteps.BAD);
        due.is("15 above", x.about(0, 3), StairSteps.BAD);
        due.is("15 kind", x.about(0, 0), 4);
        due.is("15 step", x.about(0, 1), 7);
        bars(0, 4, 20, 1 << 4);
        bars(1, 4, 17, 1 << 4);
        bars(1, 4, 18, 3 << 4);
        bars(2, 4, 1, 1 << 4);
        bars(2, 4, 0, 3 << 4);
        bars(2, 4, 12, 3 << 4);
        bars(2, 4, 18, 7 << 4);
        bars(2, 4, 19, 3 << 4);
        bars(3, 4, 8, 1 << 4);
        bars(3, 4, 9, 7 << 4);
        bars(3, 4, 16, 7 << 4);
        bars(3, 4, 17, 1 << 4);
        bars(3, 4, 33, 7 << 4);
        bars(4, 4, 8, 1 << 4);
        bars(4, 4, 9, 3 << 4);
        bars(4, 4, 17, 1 << 4);
        bars(5, 4, 4, 0);
        bars(5, 4, 5, 1 << 4);
        bars(3, 10, 9, 1 << 10);
        bars(3, 9, 9, 3 << 9);
        bars(3, 1, 9, 14);
    }
}
