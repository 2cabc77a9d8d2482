/** Promises 21 to 33: seen, whose, tell, note, mark, forget, is, look, kinds, ask, gap, dark, years. */
public final class WhoseTest {
    private static final Due due = new Due("WhoseTest");

    public static void main(String[] args) {
        seenOnesComeUpToFive();
        whoseStepsFit();
        tellHalvesThem();
        notesComeUpToSix();
        marksComeUpToSix();
        forgetDropsOneSort();
        isTellsKindsOfOwners();
        lookIsTheNextHour();
        kindsTellsKindsOfGoers();
        askIsTheNextLoadAndHour();
        gapRestsWhereOneGoesOn();
        darkIsAChance();
        darkIsRefused();
        yearsGoByASeed();
        due.end();
    }

    private static void seenOnesComeUpToFive() {
        StairSteps x = new StairSteps();
        due.is("21 no flight", x.seen(0, 1, 0, 0), StairSteps.BAD);
        x.flight(0, 5);
        due.is("21 the foot", x.seen(0, 0, 0, 0), StairSteps.BAD);
        due.is("21 the top", x.seen(0, 11, 0, 0), StairSteps.BAD);
        due.is("21 hour below", x.seen(0, 1, -1, 0), StairSteps.BAD);
        due.is("21 hour above", x.seen(0, 1, 24, 0), StairSteps.BAD);
        due.is("21 barred below", x.seen(0, 1, 0, -1), StairSteps.BAD);
        due.is("21 barred above", x.seen(0, 1, 0, 2), StairSteps.BAD);
        for (int n = 1; n <= 5; n++) due.is("21 seen " + n, x.seen(0, 10, 23, 1), n);
        due.is("21 full", x.seen(0, 1, 0, 0), StairSteps.FULL);
        due.is("21 bad ahead of full", x.seen(0, 1, 0, 2), StairSteps.BAD);
        due.is("21 five", x.count(5), 5);
    }

    private static void whoseStepsFit() {
        StairSteps x = new StairSteps();
        due.is("22 no flight", x.whose(0), StairSteps.BAD);
        x.flight(3, 5);
        x.flight(5, 5);
        due.is("22 all ten", x.whose(0), 2046);
        x.seen(0, 6, 10, 1);
        due.is("22 the lady bars three", x.whose(0), 7 << 4);
        x.seen(0, 5, 8, 0);
        due.is("22 not her own", x.whose(0), 1 << 4 | 1 << 6);
        x.seen(1, 3, 4, 0);
        due.is("22 of another flight", x.whose(0), 1 << 4 | 1 << 6);
        due.is("22 nobody bars none", x.whose(1), 2046);
        x.seen(1, 3, 5, 0);
        due.is("22 then one", x.whose(1), 2046 - 8);
        x.seen(1, 3, 4, 1);
        due.is("22 no step", x.whose(1), 0);
        x.forget(0);
        due.is("22 all ten again", x.whose(0) & x.whose(1), 2046);
    }

    private static void tellHalvesThem() {
        StairSteps x = new StairSteps();
        due.is("23 no flight", x.tell(0), StairSteps.BAD);
        x.flight(3, 5);
        due.is("23 three of ten", x.tell(0), 309);
        x.seen(0, 6, 10, 1);
        due.is("23 one of three", x.tell(0), 400);
        x.seen(0, 4, 0, 1);
        due.is("23 one alone", x.tell(0), 100);
        x.seen(0, 4, 0, 0);
        due.is("23 no step", x.tell(0), StairSteps.NONE);
        StairSteps poet = new StairSteps();
        poet.flight(2, 5);
        due.is("23 a poet at 18", poet.tell(0), 318);
    }

    private static void notesComeUpToSix() {
        StairSteps x = new StairSteps();
        due.is("24 no flight", x.note(0, 0, 0), StairSteps.BAD);
        x.flight(0, 5);
        due.is("24 hour below", x.note(0, -1, 0), StairSteps.BAD);
        due.is("24 hour above", x.note(0, 24, 0), StairSteps.BAD);
        due.is("24 below", x.note(0, 0, -1), StairSteps.BAD);
        due.is("24 above", x.note(0, 0, 10), StairSteps.BAD);
        for (int n = 1; n <= 6; n++) due.is("24 note " + n, x.note(0, 23, 9), n);
        due.is("24 full", x.note(0, 0, 0), StairSteps.FULL);
        due.is("24 bad ahead of full", x.note(1, 0, 0), StairSteps.BAD);
        due.is("24 six", x.count(6), 6);
    }

    private static void marksComeUpToSix() {
        StairSteps x = new StairSteps();
        due.is("25 nobody", x.mark(0, 1, 0, 0, 0), StairSteps.BAD);
        x = Due.with(0, 5, 0, 1);
        due.is("25 no legs", x.mark(0, 0, 0, 0, 0), StairSteps.BAD);
        due.is("25 five legs", x.mark(0, 5, 0, 0, 0), StairSteps.BAD);
        due.is("25 load below", x.mark(0, 1, -1, 0, 0), StairSteps.BAD);
        due.is("25 load above", x.mark(0, 1, 10, 0, 0), StairSteps.BAD);
        due.is("25 hour below", x.mark(0, 1, 0, -1, 0), StairSteps.BAD);
        due.is("25 hour above", x.mark(0, 1, 0, 24, 0), StairSteps.BAD);
        due.is("25 below", x.mark(0, 1, 0, 0, -1), StairSteps.BAD);
        due.is("25 above", x.mark(0, 1, 0, 0, 10), StairSteps.BAD);
        for (int n = 1; n <= 6; n++) due.is("25 mark " + n, x.mark(0, 4, 9, 23, 9), n);
        due.is("25 full", x.mark(0, 1, 0, 0, 0), StairSteps.FULL);
        due.is("25 bad ahead of full", x.mark(1, 1, 0, 0, 0), StairSteps.BAD);
        due.is("25 six", x.count(7), 6);
    }

    private static void forgetDropsOneSort() {
        StairSteps x = Due.with(0, 5, 0, 1);
        x.seen(0, 1, 1, 1);
        x.note(0, 1, 1);
        x.note(0, 1, 1);
        for (int n = 0; n < 3; n++) x.mark(0, 1, 1, 1, 1);
        due.is("26 below", x.forget(-1), StairSteps.BAD);
        due.is("26 above", x.forget(3), StairSteps.BAD);
        due.is("26 notes", x.forget(1), 2);
        due.is("26 others stay", x.count(5) * 10 + x.count(7), 13);
        due.is("26 seen", x.forget(0), 1);
        due.is("26 marks stay", x.count(7), 3);
        due.is("26 marks", x.forget(2), 3);
        due.is("26 none", x.forget(2), 0);
        due.is("26 come again", x.seen(0, 1, 1, 1), 1);
    }

    private static void isTellsKindsOfOwners() {
        StairSteps x = new StairSteps();
        due.is("27 no flight", x.is(0), StairSteps.BAD);
        x.flight(0, 10);
        x.flight(0, 10);
        due.is("27 all", x.is(0), 63);
        x.note(0, 10, 3);
        due.is("27 a lady, whatever her step", x.is(0), 8);
        due.is("27 of another flight", x.is(1), 63);
        x.note(1, 0, 0);
        due.is("27 nobody", x.is(1), 32);
        x.note(1, 0, 1);
        due.is("27 no kind", x.is(1), 0);
        x.forget(1);
        x.note(0, 18, 2);
        due.is("27 a clerk", x.is(0), 2);
        x.forget(1);
        x.note(0, 12, 2);
        due.is("27 poet, heir", x.is(0), 4 | 16);
    }

    private static void lookIsTheNextHour() {
        StairSteps x = new StairSteps();
        due.is("28 no flight", x.look(0), StairSteps.BAD);
        x.flight(0, 5);
        due.is("28 of all six", x.look(0), 12);
        x.note(0, 12, 1);
        due.is("28 plain, clerk, nobody", x.look(0), 0);
        x.note(0, 0, 1);
        due.is("28 plain, clerk", x.look(0), 18);
        x.note(0, 18, 1);
        due.is("28 plain", x.look(0), 0);
        x.note(0, 18, 9);
        due.is("28 no kind", x.look(0), StairSteps.NONE);
    }

    private static void kindsTellsKindsOfGoers() {
        StairSteps x = new StairSteps();
        due.is("29 nobody", x.kinds(0), StairSteps.BAD);
        x = Due.with(0, 5, 0, 4);
        x.goer(0, 4, 0);
        due.is("29 all", x.kinds(0), 63);
        x.mark(0, 4, 0, 20, 2);
        due.is("29 child, coffin, old", x.kinds(0), 2 | 8 | 32);
        x.mark(0, 4, 9, 20, 2);
        due.is("29 child, old", x.kinds(0), 2 | 32);
        x.mark(0, 3, 9, 7, 1);
        due.is("29 old", x.kinds(0), 32);
        due.is("29 another goer", x.kinds(1), 63);
        x.mark(1, 4, 0, 18, 5);
        due.is("29 lover", x.kinds(1), 16);
        x.mark(1, 4, 0, 17, 5);
        due.is("29 no kind", x.kinds(1), 0);
    }

    private static void askIsTheNextLoadAndHour() {
        StairSteps x = new StairSteps();
        due.is("30 nobody", x.ask(0), StairSteps.BAD);
        x = Due.with(0, 5, 0, 4);
        due.is("30 of all six", x.ask(0), 300);
        x.mark(0, 4, 0, 20, 2);
        due.is("30 child, coffin, old", x.ask(0), 0);
        x.mark(0, 4, 0, 1, 2);
        due.is("30 child, coffin", x.ask(0), 900);
        StairSteps apart = Due.with(0, 5, 0, 4);
        apart.mark(0, 4, 9, 0, 4);
        due.is("30 plain, lover", apart.ask(0), 18);
        apart.mark(0, 4, 9, 20, 4);
        due.is("30 plain", apart.ask(0), 0);
        apart.mark(0, 4, 9, 20, 9);
        due.is("30 no kind", apart.ask(0), StairSteps.NONE);
        due.is("30 legs as they are", Due.with(0, 5, 0, 3).ask(0), 608);
    }

    private static void gapRestsWhereOneGoesOn() {
        StairSteps x = Due.with(0, 5, 0, 4);
        x.flight(0, 5);
        x.goer(1, 1, 1);
        due.is("31 alike", x.gap(1, 1), StairSteps.BAD);
        due.is("31 nobody", x.gap(0, 2), StairSteps.BAD);
        due.is("31 nobody first", x.gap(-1, 0), StairSteps.BAD);
        due.is("31 one goes on", x.gap(0, 1), 6);
        x.loads(0, 9);
        due.is("31 with a load", x.gap(0, 1), 6);
        due.is("31 the other way", x.gap(1, 0), 6);
    }

    private static void chance(StairSteps x, int n, int c, long above, long below) {
        due.is("32 dark", x.dark(0, n, c), 1);
        due.is("32 above, n " + n + " c " + c, x.part(0), above);
        due.is("32 below, n " + n + " c " + c, x.part(1), below);
    }

    private static void darkIsAChance() {
        StairSteps x = Due.with(0, 4, 0, 3);
        chance(x, 0, 5, 1, 1);
        chance(x, 1, 5, 1, 1);
        chance(x, 2, 0, 1, 1);
        chance(x, 1, 10, 1, 1);
        StairSteps two = Due.with(0, 3, 0, 2);
        chance(two, 1, 3, 7, 10);
        chance(two, 2, 4, 3, 5);
        StairSteps lady = Due.atHour(Due.with(3, 6, 0, 4), 9);
        chance(lady, 1, 3, 1, 1);
        chance(lady, 2, 3, 49, 100);
        chance(lady, 4, 5, 1, 4);
        chance(lady, 6, 1, 81, 100);
        StairSteps one = Due.with(0, 2, 0, 2);
        chance(one, 1, 3, 7, 10);
        chance(one, 6, 3, 7, 10);
        chance(one, 6, 10, 0, 1);
        StairSteps high = Due.with(5, 10, 0, 1);
        high.hours(4);
        chance(high, 6, 1, 1, 1);
        StairSteps stuck = Due.with(0, 4, 0, 1);
        stuck.goer(0, 3, 0);
        stuck.dark(1, 1, 3);
        due.is("32 another's chance", stuck.part(0), 1);
        chance(stuck, 0, 0, 0, 1);
        StairSteps over = Due.with(0, 4, 0, 4);
        over.strides(0, 3);
        over.strides(0, 4);
        over.strides(0, 4);
        chance(over, 6, 5, 1, 1);
        StairSteps porter = Due.with(3, 8, 3, 4);
        chance(porter, 4, 3, 2807, 5000);
    }

    private static void darkIsRefused() {
        StairSteps x = Due.with(0, 2, 0, 2);
        x.dark(0, 1, 3);
        due.is("32 nobody", x.dark(1, 0, 0), StairSteps.BAD);
        due.is("32 n below", x.dark(0, -1, 0), StairSteps.BAD);
        due.is("32 n above", x.dark(0, 7, 0), StairSteps.BAD);
        due.is("32 c below", x.dark(0, 0, -1), StairSteps.BAD);
        due.is("32 c above", x.dark(0, 0, 11), StairSteps.BAD);
        due.is("32 the fraction stays", x.part(0) * 100 + x.part(1), 710);
        due.is("32 no step is gone", x.of(0, 3), 0);
    }

    private static void yearsGoByASeed() {
        StairSteps x = new StairSteps();
        due.is("33 seed below", x.years(-1, 0), StairSteps.BAD);
        due.is("33 seed above", x.years(1000000, 0), StairSteps.BAD);
        due.is("33 n below", x.years(0, -1), StairSteps.BAD);
        due.is("33 n above", x.years(0, 61), StairSteps.BAD);
        due.is("33 nobody falls", x.years(999999, 60), 0);
        for (int kind = 0; kind < 3; kind++) x.flight(5 - kind, kind == 0 ? 10 : kind == 1 ? 1 : 8);
        for (int i = 0; i < 6; i++) x.goer(5 - i, i < 4 ? 4 : 1, new int[] {0, 1, 2, 2, 1, 0}[i]);
        long before = x.digest();
        due.is("33 none", x.years(7, 0), 0);
        due.is("33 nine", x.years(999999, 9), 2);
        due.is("33 sixty", x.years(0, 60), 15);
        due.is("33 sixty by seven", x.years(7, 60), 13);
        due.is("33 nothing is changed", x.digest(), before);
        yearsCountFromHere();
    }

    private static void yearsCountFromHere() {
        StairSteps x = Due.with(5, 1, 0, 1);
        x.hours(5);
        int one = x.years(3, 60);
        due.holds("33 one falls", one > 0);
        x.strides(0, 1);
        due.is("33 a fall of before", x.count(4), 1);
        due.is("33 does not count", x.years(3, 60), one);
        // X is 12345, then 1406932606: goer 0 strides twice, the second time an hour on, to step 2.
        StairSteps night = Due.with(5, 2, 0, 1);
        Due.atHour(night, 3);
        due.is("33 at 4 nobody sits", night.years(0, 2), 0);
        Due.atHour(night, 1);
        due.is("33 at 5 he does", night.years(0, 2), 1);
        due.is("33 the first stride alone", night.years(0, 1), 0);
    }
}
