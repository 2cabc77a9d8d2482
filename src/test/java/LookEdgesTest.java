/** UP, STUCK, SOON, SITE, MEET: from the foot, at the top, for none, of like ones. */
public final class LookEdgesTest {
    private static final Due due = new Due("LookEdgesTest");

    public static void main(String[] args) {
        upFromEveryStep();
        upOfTheLongestRow();
        upIsNone();
        upIsOfThisHour();
        upIsTheFirstRow();
        stuckAreBits();
        soonIsNone();
        soonIsTheFirstHour();
        soonIsFromWhereOneIs();
        siteOfNobody();
        siteOfThoseWhoCanNot();
        siteIsTheLeastStep();
        siteIsFromTheFootNow();
        meetAtOnce();
        meetLast();
        meetNever();
        looksChangeNothing();
        due.end();
    }

    private static StairSteps at(int step, int ownerKind, int ownerStep, int legs) {
        StairSteps x = Due.with(ownerKind, ownerStep, 0, legs);
        for (int n = 0; n < step; n++) x.strides(0, 1);
        return x;
    }

    private static void row(String what, StairSteps x, int i, int... want) {
        due.is(what + ", how many", x.up(i, StairSteps.NONE), want.length);
        for (int k = 0; k < want.length; k++) due.is(what + ", stride " + k, x.up(i, k), want[k]);
        due.is(what + ", one more", x.up(i, want.length), -5);
        due.is(what + ", many more", x.up(i, Integer.MAX_VALUE), -5);
        due.is(what + ", not stuck", x.stuck() >> i & 1, 0);
    }

    private static void upFromEveryStep() {
        due.says("UP for a GOER: the fewest STRIDES from where one is to OVER, all in this HOUR, without a FALL: how many");
        for (int legs = 1; legs <= 4; legs++) {
            for (int step = 0; step <= 11; step++) {
                StairSteps x = at(step, 5, 3, legs);
                int many = (11 - step + legs - 1) / legs;
                due.is("16 from " + step + " by " + legs, x.up(0, StairSteps.NONE), many);
                int all = 0;
                for (int k = 0; k < many; k++) all += x.up(0, k);
                due.is("16 all the strides together", all, 11 - step);
                due.is("16 the next one", x.up(0, many), -5);
                due.is("17 nobody is stuck", x.stuck(), 0);
            }
        }
        row("16 over", Houses.over(), 0);
    }

    private static void upOfTheLongestRow() {
        row("16 eleven strides", at(0, 5, 4, 1), 0, 1, 1, 1, 1, 1, 1, 1, 1, 1, 1, 1);
        row("16 one stride", at(10, 5, 4, 4), 0, 1);
        row("16 past the barred ones to the top", Due.atHour(stoodAt7(), 9), 0, 4);
        StairSteps lover = Due.atHour(Due.with(0, 5, 4, 4), 18);
        row("16 by five", lover, 0, 1, 5, 5);
    }

    private static StairSteps stoodAt7() {
        StairSteps x = Due.with(3, 8, 0, 4);
        x.strides(0, 4);
        x.strides(0, 3);
        return x;
    }

    private static void upIsNone() {
        due.says("`int up(int i, int k)`: UP: how many (k = NONE), how many STEPS the k-th is of. -6: none (whatever k is). -5: not so many. BAD: -10.");
        Due.Made stuck = () -> Due.with(0, 5, 0, 1);
        int[] ks = {StairSteps.NONE, 0, 1, 2, 11, 12, Integer.MAX_VALUE};
        for (int k : ks) due.onlyLooks("16 none, k " + k, stuck, x -> x.up(0, k), -6);
        due.refused("16 stuck, k -2", stuck, x -> x.up(0, -2), -10, Due.BAD);
        due.refused("16 nobody, NONE", stuck, x -> x.up(1, StairSteps.NONE), -10, Due.BAD);
        due.refused("16 nobody below, NONE", stuck, x -> x.up(-1, StairSteps.NONE), -10, Due.BAD);
        due.onlyLooks("16 over, first", Houses::over, x -> x.up(0, 0), -5);
        due.onlyLooks("16 over, how many", Houses::over, x -> x.up(0, StairSteps.NONE), 0);
    }

    private static void upIsOfThisHour() {
        StairSteps x = Due.with(3, 4, 0, 3);
        due.is("16 at 0", x.up(0, StairSteps.NONE), 4);
        x.hours(8);
        due.is("16 at 8", x.up(0, StairSteps.NONE), 4);
        x.hours(1);
        due.is("16 at 9", x.up(0, StairSteps.NONE), -6);
        x.hours(7);
        due.is("16 at 16", x.up(0, StairSteps.NONE), -6);
        x.hours(1);
        due.is("16 at 17", x.up(0, StairSteps.NONE), 4);
    }

    private static void upIsTheFirstRow() {
        due.says("how many STEPS the k-th is of in the first such row (rising); none.");
        row("16 4 to 4", Due.with(0, 10, 0, 4), 0, 3, 4, 4);
        row("16 barred at 3", Due.with(0, 3, 0, 4), 0, 4, 3, 4);
        row("16 barred at 7", Due.with(0, 7, 0, 4), 0, 4, 4, 3);
        row("16 barred at 1", Due.with(0, 1, 0, 3), 0, 2, 3, 3, 3);
        row("16 barred at 2", Due.with(0, 2, 0, 3), 0, 3, 2, 3, 3);
        row("16 barred at 5", Due.with(0, 5, 0, 3), 0, 3, 3, 2, 3);
        row("16 barred at 8", Due.with(0, 8, 0, 3), 0, 3, 3, 3, 2);
        StairSteps sold = at(4, 0, 9, 4);
        sold.sells(0, 4);
        row("16 from a barred step", sold, 0, 3, 4);
    }

    private static void stuckAreBits() {
        due.says("`int stuck()`: STUCK, as bits.");
        due.says("STUCK: GOERS (bits) who can not be OVER so.");
        StairSteps x = new StairSteps();
        due.is("17 nobody", x.stuck(), 0);
        x.flight(0, 5);
        for (int i = 0; i < 6; i++) {
            x.goer(0, 1, 0);
            due.is("17 " + (i + 1) + " of them", x.stuck(), (2 << i) - 1);
        }
        StairSteps some = new StairSteps();
        some.flight(3, 5);
        some.flight(5, 5);
        for (int i = 0; i < 6; i++) some.goer(0, i < 4 ? i + 1 : 1, i < 4 ? 0 : 1);
        due.is("17 at 0", some.stuck(), 1);
        some.hours(5);
        due.is("17 at 5", some.stuck(), 1 | 16 | 32);
        some.hours(4);
        due.is("17 at 9", some.stuck(), 1 | 2 | 4 | 16 | 32);
        some.strides(3, 4);
        some.strides(3, 4);
        some.strides(3, 3);
        due.is("17 who is over is not", some.stuck(), 1 | 2 | 4 | 16 | 32);
        for (int n = 0; n < 4; n++) some.strides(4, 1);
        some.sells(1, 4);
        due.is("17 who is on it is not", some.stuck(), 1 | 2 | 4 | 32);
    }

    private static void soonIsNone() {
        due.says("`int soon(int i, int what)`: SOON: the hour of a day (0), how many (1). NONE. BAD.");
        for (int what = 0; what <= 1; what++) {
            int as = what;
            due.onlyLooks("18 none " + what, () -> Due.with(0, 1, 0, 1), x -> x.soon(0, as), StairSteps.NONE);
            due.onlyLooks("18 over " + what, Houses::over, x -> x.soon(0, as), 0);
        }
    }

    private static void soon(String what, StairSteps x, int hour, int many) {
        due.is("18 " + what + ", the hour", x.soon(0, 0), hour);
        due.is("18 " + what + ", how many", x.soon(0, 1), many);
    }

    private static void soonIsTheFirstHour() {
        due.says("SOON for a GOER: the hour of a day (0 .. 23) at which, LOAD as it is, UP would be least; of like ones the first; how many; none.");
        soon("all alike", Due.with(0, 10, 0, 4), 0, 3);
        soon("nobody sits below 5", Due.with(5, 5, 0, 1), 0, 11);
        soon("one who is old from 8 on", Due.with(5, 1, 5, 4), 8, 6);
        soon("a lover from 18 on", Due.with(0, 5, 4, 1), 18, 6);
        soon("a poet at 1", Due.with(2, 5, 0, 2), 1, 6);
        soon("a lover and a clerk", Due.with(1, 5, 4, 2), 18, 5);
        soon("a lover at 18, when the poet bars three", Due.with(2, 9, 4, 3), 18, 3);
        soon("a lover at 19, when the poet bars two", Due.with(2, 4, 4, 2), 19, 4);
        StairSteps late = Due.with(5, 1, 5, 4);
        late.hours(50);
        soon("whatever the hour is", late, 8, 6);
        StairSteps porter = Due.with(0, 10, 2, 4);
        porter.loads(0, 9);
        soon("load as it is", porter, StairSteps.NONE, StairSteps.NONE);
        porter.loads(0, 8);
        soon("a load less", porter, 0, 6);
    }

    private static void soonIsFromWhereOneIs() {
        for (int step = 0; step <= 11; step++) {
            StairSteps x = at(step, 5, 3, 2);
            soon("from " + step, x, 0, (12 - step) / 2);
        }
    }

    private static void site(String what, StairSteps x, int f, int step, int together) {
        due.is("19 " + what + ", the step", x.site(f, 0), step);
        due.is("19 " + what + ", together", x.site(f, 1), together);
    }

    private static void siteOfNobody() {
        due.says("`int site(int f, int what)`: SITE: the STEP (0), how many together (1). BAD.");
        StairSteps x = new StairSteps();
        for (int f = 0; f < 3; f++) x.flight(f, 10 - f);
        for (int f = 0; f < 3; f++) site("nobody on " + f, x, f, 1, 0);
        x.goer(0, 4, 1);
        site("nobody on 0 yet", x, 0, 1, 0);
        site("one on 1", x, 1, 1, 3);
        site("nobody on 2 yet", x, 2, 1, 0);
    }

    private static void siteOfThoseWhoCanNot() {
        due.says("(20 for one who can not)");
        StairSteps x = new StairSteps();
        x.flight(0, 7);
        for (int many = 1; many <= 6; many++) {
            x.goer(0, 1, 0);
            site(many + " who can not", x, 0, 1, 20 * many);
        }
        StairSteps other = Due.with(0, 7, 0, 1);
        other.goer(0, 4, 0);
        site("one who can not, one who can", other, 0, 1, 23);
        StairSteps lady = Due.atHour(Due.with(3, 4, 0, 2), 9);
        site("only below the top", lady, 0, 10, 6);
        lady.goer(0, 1, 0);
        site("the other can not", lady, 0, 10, 26);
    }

    private static void siteIsTheLeastStep() {
        due.says("SITE for a FLIGHT: the STEP (1 .. 10) for its OWNER by which the UPS, from the foot on, of all GOERS of that FLIGHT together would be least now (20 for one who can not); of like ones the least; how many together.");
        site("like ones", Due.with(0, 9, 0, 4), 0, 1, 3);
        site("by twos", Due.with(0, 9, 0, 2), 0, 1, 6);
        site("a clerk at 18, by twos", Due.atHour(Due.with(1, 1, 0, 2), 18), 0, 10, 6);
        site("a clerk at 18, by threes", Due.atHour(Due.with(1, 1, 0, 3), 18), 0, 1, 4);
        site("a lady at 9, by threes", Due.atHour(Due.with(3, 1, 0, 3), 9), 0, 9, 4);
        site("a lady at 9, by fours", Due.atHour(Due.with(3, 1, 0, 4), 9), 0, 1, 3);
        StairSteps fours = Due.with(0, 5, 0, 4);
        fours.goer(0, 3, 0);
        site("threes and fours", fours, 0, 1, 7);
        site("nobody bars at 0", Due.with(5, 5, 0, 1), 0, 1, 11);
    }

    private static void siteIsFromTheFootNow() {
        StairSteps x = Due.with(5, 6, 0, 4);
        x.strides(0, 4);
        site("from the foot", x, 0, 1, 3);
        x.strides(0, 4);
        x.strides(0, 4);
        site("over", x, 0, 1, 3);
        due.is("19 one stays over", x.of(0, 3), 11);
        due.is("19 nothing is sold", x.about(0, 1), 6);
        StairSteps one = Due.with(5, 6, 0, 1);
        site("at 0", one, 0, 1, 11);
        one.hours(5);
        site("at 5", one, 0, 1, 20);
        StairSteps porter = Due.with(0, 6, 2, 4);
        site("no load", porter, 0, 1, 3);
        porter.loads(0, 9);
        site("a load", porter, 0, 1, 20);
    }

    private static StairSteps pair(int ownerKind, int step, int legs, int otherLegs) {
        StairSteps x = Due.with(ownerKind, step, 0, legs);
        x.goer(0, otherLegs, 0);
        return x;
    }

    private static void meet(String what, StairSteps x, int want) {
        due.is("20 " + what, x.meets(0, 1), want);
        due.is("20 " + what + ", the other way", x.meets(1, 0), want);
    }

    private static void meetAtOnce() {
        due.says("MEET for two unlike GOERS of one FLIGHT: both do the STRIDES of their UP, one for each at a time, who is OVER waits: behind how many (0 .. 11) both are on one STEP first");
        meet("at the foot", pair(0, 5, 4, 2), 0);
        StairSteps mid = pair(0, 5, 4, 2);
        for (int n = 0; n < 2; n++) mid.strides(1, 2);
        mid.strides(0, 4);
        meet("on the stair", mid, 0);
        StairSteps over = pair(5, 5, 4, 4);
        for (int i = 0; i < 2; i++) for (int n = 0; n < 3; n++) over.strides(i, 4);
        meet("both are over", over, 0);
    }

    private static void meetLast() {
        StairSteps x = pair(5, 5, 1, 4);
        for (int n = 0; n < 3; n++) x.strides(1, 4);
        for (int step = 0; step <= 10; step++) {
            meet("who is over waits for one at " + step, x, 11 - step);
            x.strides(0, 1);
        }
        meet("both are over then", x, 0);
        StairSteps behind = pair(5, 5, 1, 1);
        behind.strides(1, 1);
        meet("one behind the other meets at the top", behind, 11);
        StairSteps passed = pair(0, 1, 4, 3);
        passed.strides(1, 2);
        meet("one passes the other", passed, 3);
        StairSteps on = pair(5, 5, 3, 1);
        on.strides(1, 1);
        meet("on one step behind one", on, 1);
        on.strides(1, 1);
        meet("one step too far, so at the top", on, 9);
    }

    private static void meetNever() {
        due.says("none (also: one is STUCK)");
        meet("one is stuck", pair(0, 5, 1, 4), StairSteps.NONE);
        meet("both are stuck", pair(0, 5, 1, 1), StairSteps.NONE);
        StairSteps over = pair(0, 5, 1, 4);
        over.strides(1, 4);
        over.strides(1, 4);
        over.strides(1, 4);
        meet("one is stuck, one is over", over, StairSteps.NONE);
        StairSteps lady = Due.atHour(pair(3, 5, 3, 4), 9);
        meet("at this hour", lady, StairSteps.NONE);
        lady.hours(8);
        meet("at another", lady, 0);
    }

    private static void looksChangeNothing() {
        due.says("======== 2 (Nothing is changed by these.)");
        StairSteps y = Houses.full();
        due.onlyLooks("16 up", Houses::full, x -> x.up(0, StairSteps.NONE), y.up(0, StairSteps.NONE));
        due.onlyLooks("16 up, a stride", Houses::full, x -> x.up(0, 1), y.up(0, 1));
        due.onlyLooks("17 stuck", Houses::full, StairSteps::stuck, y.stuck());
        due.onlyLooks("18 soon", Houses::full, x -> x.soon(3, 0), y.soon(3, 0));
        due.onlyLooks("19 site", Houses::full, x -> x.site(0, 0), y.site(0, 0));
        due.onlyLooks("20 meets", Houses::full, x -> x.meets(0, 1), y.meets(0, 1));
        due.onlyLooks("14 of", Houses::full, x -> x.of(4, 5), y.of(4, 5));
        due.onlyLooks("15 about", Houses::full, x -> x.about(1, 2), y.about(1, 2));
        due.onlyLooks("22 whose", Houses::full, x -> x.whose(0), y.whose(0));
        due.onlyLooks("23 tell", Houses::full, x -> x.tell(0), y.tell(0));
        due.onlyLooks("27 is", Houses::full, x -> x.is(0), y.is(0));
        due.onlyLooks("28 look", Houses::full, x -> x.look(0), y.look(0));
        due.onlyLooks("29 kinds", Houses::full, x -> x.kinds(0), y.kinds(0));
        due.onlyLooks("30 ask", Houses::full, x -> x.ask(0), y.ask(0));
        due.onlyLooks("31 gap", Houses::full, x -> x.gap(0, 1), y.gap(0, 1));
        due.onlyLooks("33 years", Houses::full, x -> x.years(999999, 60), y.years(999999, 60));
        due.onlyLooks("34 part", Houses::full, x -> x.part(1), y.part(1));
        due.onlyLooks("37 status", Houses::full, x -> x.status(0), y.status(0));
        due.onlyLooks("38 count", Houses::full, x -> x.count(8), y.count(8));
        due.onlyLooks("39 digest", Houses::full, StairSteps::digest, y.digest());
    }
}
