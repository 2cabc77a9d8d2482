/** Promises 16 to 20: up, stuck, soon, site, meets. */
public final class UpTest {
    private static final Due due = new Due("UpTest");

    public static void main(String[] args) {
        upIsTheFewestStrides();
        upIsTheFirstRow();
        upIsRefused();
        stuckOnesAreBits();
        soonIsTheFirstBestHour();
        siteIsTheEasiestStep();
        meetsCountsStrides();
        due.end();
    }

    private static void row(StairSteps x, int i, int... want) {
        due.is("16 how many", x.up(i, StairSteps.NONE), want.length);
        for (int k = 0; k < want.length; k++) due.is("16 stride " + k, x.up(i, k), want[k]);
        due.is("16 not so many", x.up(i, want.length), -5);
        due.is("16 by far not so many", x.up(i, Integer.MAX_VALUE), -5);
    }

    private static void upIsTheFewestStrides() {
        row(Due.with(0, 5, 0, 4), 0, 3, 4, 4);
        row(Due.with(0, 3, 0, 4), 0, 4, 3, 4);
        row(Due.with(0, 1, 0, 2), 0, 2, 1, 2, 2, 2, 2);
        row(Due.with(5, 1, 0, 1), 0, 1, 1, 1, 1, 1, 1, 1, 1, 1, 1, 1);
        StairSteps x = Due.with(0, 5, 0, 4);
        x.strides(0, 4);
        row(x, 0, 3, 4);
        due.is("16 nothing is changed", x.of(0, 3), 4);
        x.strides(0, 4);
        row(x, 0, 3);
        x.strides(0, 3);
        row(x, 0);
    }

    private static void upIsTheFirstRow() {
        StairSteps x = Due.with(0, 7, 0, 4);
        row(x, 0, 4, 4, 3);
        x.sells(0, 3);
        row(x, 0, 4, 3, 4);
        x.sells(0, 8);
        row(x, 0, 3, 4, 4);
        StairSteps onBarred = Due.with(0, 9, 0, 2);
        onBarred.strides(0, 2);
        onBarred.strides(0, 2);
        onBarred.sells(0, 4);
        row(onBarred, 0, 1, 2, 2, 2);
    }

    private static void upIsRefused() {
        StairSteps x = Due.with(0, 5, 0, 1);
        due.is("16 none", x.up(0, StairSteps.NONE), -6);
        due.is("16 none, no first", x.up(0, 0), -6);
        due.is("16 none, no hundredth", x.up(0, 100), -6);
        due.is("16 none is not refused", x.status(0), 0);
        x.goer(0, 2, 0);
        due.is("16 goer below", x.up(-1, 0), -10);
        due.is("16 goer above", x.up(2, 0), -10);
        due.is("16 k below", x.up(1, -2), -10);
        due.is("16 counts as bad", x.status(0), 3);
    }

    private static void stuckOnesAreBits() {
        StairSteps x = new StairSteps();
        x.flight(0, 5);
        x.flight(3, 5);
        x.goer(0, 1, 0);
        x.goer(0, 2, 0);
        x.goer(0, 3, 1);
        x.goer(0, 4, 1);
        due.is("17 one leg", x.stuck(), 1);
        x.hours(9);
        due.is("17 the lady sits", x.stuck(), 5);
        x.sells(0, 1);
        x.sells(0, 5);
        due.is("17 again", x.stuck(), 5);
        StairSteps over = Due.with(0, 10, 0, 1);
        for (int k = 0; k < 9; k++) over.strides(0, 1);
        due.is("17 stuck below it", over.stuck(), 1);
        over.sells(0, 9);
        due.is("17 on it", over.stuck(), 0);
        over.strides(0, 1);
        over.strides(0, 1);
        due.is("17 over", over.stuck(), 0);
    }

    private static void soonIsTheFirstBestHour() {
        StairSteps x = Due.with(3, 9, 4, 4);
        due.is("18 nobody", x.soon(1, 0), StairSteps.BAD);
        due.is("18 below", x.soon(0, -1), StairSteps.BAD);
        due.is("18 above", x.soon(0, 2), StairSteps.BAD);
        due.is("18 first hour", x.soon(0, 0), 0);
        due.is("18 how many", x.soon(0, 1), 3);
        StairSteps lover = Due.with(0, 1, 4, 1);
        due.is("18 at night", lover.soon(0, 0), 18);
        due.is("18 by night", lover.soon(0, 1), 6);
        StairSteps old = Due.with(0, 1, 5, 3);
        due.is("18 by day", old.soon(0, 0), 8);
        StairSteps stuck = Due.with(0, 1, 0, 1);
        due.is("18 no hour", stuck.soon(0, 0), StairSteps.NONE);
        due.is("18 none", stuck.soon(0, 1), StairSteps.NONE);
        StairSteps porter = Due.with(0, 10, 2, 4);
        due.is("18 with no load", porter.soon(0, 1), 3);
        porter.loads(0, 6);
        due.is("18 load as it is", porter.soon(0, 1), 6);
        for (int k = 0; k < 4; k++) porter.strides(0, 2);
        due.is("18 from where one is", porter.soon(0, 1), 2);
        porter.strides(0, 1);
        porter.strides(0, 2);
        due.is("18 over: hour", porter.soon(0, 0), 0);
        due.is("18 over: none to do", porter.soon(0, 1), 0);
    }

    private static void siteIsTheEasiestStep() {
        StairSteps x = new StairSteps();
        due.is("19 no flight", x.site(0, 0), StairSteps.BAD);
        x.flight(0, 5);
        due.is("19 below", x.site(0, -1), StairSteps.BAD);
        due.is("19 above", x.site(0, 2), StairSteps.BAD);
        due.is("19 nobody: step", x.site(0, 0), 1);
        due.is("19 nobody: together", x.site(0, 1), 0);
        x.goer(0, 1, 0);
        due.is("19 one who can not", x.site(0, 1), 20);
        x.goer(0, 4, 0);
        due.is("19 two: step", x.site(0, 0), 1);
        due.is("19 two: together", x.site(0, 1), 23);
        x.flight(2, 5);
        x.goer(0, 2, 1);
        due.is("19 a poet at 0: at the top", x.site(1, 0), 10);
        due.is("19 a poet at 0: together", x.site(1, 1), 6);
        x.strides(1, 4);
        due.is("19 from the foot on", x.site(0, 1), 23);
        due.is("19 nothing is sold", x.about(1, 1), 5);
        StairSteps child = Due.with(0, 1, 0, 3);
        due.is("19 like ones", child.site(0, 0), 1);
        due.is("19 four", child.site(0, 1), 4);
    }

    private static void meetsCountsStrides() {
        StairSteps x = Due.with(0, 1, 0, 4);
        x.goer(0, 2, 0);
        x.goer(0, 1, 0);
        x.flight(0, 1);
        x.goer(0, 4, 1);
        due.is("20 alike", x.meets(0, 0), StairSteps.BAD);
        due.is("20 unlike flights", x.meets(0, 3), StairSteps.BAD);
        due.is("20 nobody", x.meets(0, 4), StairSteps.BAD);
        due.is("20 nobody first", x.meets(-1, 0), StairSteps.BAD);
        due.is("20 at once", x.meets(0, 1), 0);
        due.is("20 one is stuck, though on one step", x.meets(0, 2), StairSteps.NONE);
        due.is("20 the other is stuck", x.meets(2, 0), StairSteps.NONE);
        x.strides(1, 2);
        x.strides(1, 1);
        due.is("20 behind two", x.meets(0, 1), 2);
        due.is("20 behind two, too", x.meets(1, 0), 2);
        x.strides(0, 4);
        due.is("20 at the top", x.meets(0, 1), 4);
        due.is("20 nothing is changed", x.of(0, 3), 4);
        x.strides(0, 3);
        x.strides(0, 4);
        due.is("20 who is over waits", x.meets(0, 1), 4);
        StairSteps slow = Due.with(5, 5, 0, 1);
        slow.goer(0, 4, 0);
        slow.strides(1, 3);
        due.is("20 eleven", slow.meets(0, 1), 11);
    }
}
