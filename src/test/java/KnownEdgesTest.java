/** SEEN, NOTES, MARKS and what they tell; GAP; DARK; YEARS: at the ends, for none, of like ones. */
public final class KnownEdgesTest {
    private static final Due due = new Due("KnownEdgesTest");

    public static void main(String[] args) {
        whoseOfNoneSeen();
        whoseAtTheEnds();
        whoseByTheHour();
        whoseOfOneFlight();
        tellOfAll();
        tellOfOneAndNone();
        isOfNoneAndAll();
        lookOfTwo();
        lookOfOneAndNone();
        kindsOfNoneAndAll();
        askOfTwo();
        askOfOneAndNone();
        forgetIsOfOneSort();
        gapRests();
        darkAtTheEnds();
        darkOfFewStrides();
        darkEndsAtEleven();
        darkIsInLowestTerms();
        darkByAllOutcomes();
        yearsOfNone();
        yearsBeginWithTheSeed();
        yearsAreCut();
        yearsOfThoseWhoAreThere();
        yearsByStrides();
        yearsAtTheLastHour();
        due.end();
    }

    private static StairSteps owned(int kind) {
        return Due.with(kind, 5, 0, 4);
    }

    private static void whose(String what, int kind, int s, int t, int barred, int want) {
        StairSteps x = owned(kind);
        x.seen(0, s, t, barred);
        due.is("22 " + what, x.whose(0), want);
    }

    private static void whoseOfNoneSeen() {
        due.says("`int whose(int f)`: WHOSE, as bits. BAD.");
        due.says("WHOSE for a FLIGHT: STEPS (bits 1 to 10) that may be its OWNER's, his KIND as it is, so that all SEEN of it are so.");
        for (int kind = 0; kind < 6; kind++) due.is("22 none seen, kind " + kind, owned(kind).whose(0), 2046);
        due.bad("22 no flight", Houses::empty, x -> x.whose(0));
    }

    private static void whoseAtTheEnds() {
        due.says("SEEN 0 .. 4, as they come: STEP s (1 .. 10) of a FLIGHT was BARRED (1) or not (0) at hour t (0 .. 23).");
        for (int s = 1; s <= 10; s++) {
            int three = (7 << s >> 2) & 2046;
            whose("plain, barred " + s, 0, s, 0, 1, 1 << s);
            whose("plain, not " + s, 0, s, 23, 0, 2046 - (1 << s));
            whose("lady, barred " + s, 3, s, 9, 1, three);
            whose("lady, not " + s, 3, s, 16, 0, 2046 - three);
            whose("nobody, not " + s, 5, s, 4, 0, 2046);
            whose("nobody, barred " + s, 5, s, 4, 1, 0);
        }
        whose("a lady bars 1 from 1 alone", 3, 1, 12, 1, 2);
        whose("a lady bars 2 from 1, 2", 3, 2, 12, 1, 6);
        whose("a lady bars 10 from 8, 9, 10", 3, 10, 12, 1, 0x700);
    }

    private static void whoseByTheHour() {
        whose("lady at 8", 3, 5, 8, 1, 1 << 5);
        whose("lady at 9", 3, 5, 9, 1, 7 << 3);
        whose("lady at 16", 3, 5, 16, 1, 7 << 3);
        whose("lady at 17", 3, 5, 17, 1, 1 << 5);
        whose("clerk at 17", 1, 5, 17, 1, 1 << 5);
        whose("clerk at 18", 1, 5, 18, 1, 3 << 4);
        whose("poet at 18", 2, 5, 18, 1, 7 << 3);
        whose("poet at 0", 2, 5, 0, 1, 3 << 4);
        whose("nobody at 5", 5, 5, 5, 1, 1 << 5);
    }

    private static void whoseOfOneFlight() {
        StairSteps x = new StairSteps();
        for (int f = 0; f < 3; f++) x.flight(0, 5);
        for (int f = 0; f < 3; f++) x.seen(f, f + 8, 0, 1);
        for (int f = 0; f < 3; f++) due.is("22 of flight " + f, x.whose(f), 1 << f + 8);
        x.seen(2, 10, 0, 0);
        due.is("22 no step", x.whose(2), 0);
        due.is("22 of another", x.whose(1), 1 << 9);
        x.sells(0, 1);
        due.is("22 a sale does not change what was seen", x.whose(0), 1 << 8);
        due.is("21 still there", x.count(5), 4);
    }

    private static void tellOfAll() {
        due.says("TELL for a FLIGHT: 100 s and t (s 1 .. 10, t 0 .. 23) by which, BARRED or not, the greater part of these is least; of like ones the least; none: no STEP.");
        due.is("23 plain", owned(0).tell(0), 100);
        due.is("23 clerk", owned(1).tell(0), 218);
        due.is("23 poet", owned(2).tell(0), 318);
        due.is("23 lady", owned(3).tell(0), 309);
        due.is("23 heir", owned(4).tell(0), 209);
        due.is("23 nobody", owned(5).tell(0), 105);
    }

    private static void tellOfOneAndNone() {
        due.says("`int tell(int f)`: TELL. NONE. BAD.");
        StairSteps x = owned(0);
        x.seen(0, 10, 0, 1);
        due.is("23 one step", x.tell(0), 100);
        x.seen(0, 10, 0, 0);
        due.onlyLooks("23 no step", () -> seenBoth(), y -> y.tell(0), StairSteps.NONE);
        StairSteps lady = owned(3);
        lady.seen(0, 10, 9, 1);
        due.is("23 three at the top", lady.tell(0), 800);
        lady.seen(0, 8, 0, 0);
        due.is("23 two at the top", lady.tell(0), 900);
        StairSteps nobody = owned(5);
        nobody.seen(0, 10, 4, 0);
        due.is("23 nobody, none barred", nobody.tell(0), 105);
        due.bad("23 no flight", Houses::empty, y -> y.tell(0));
        tellOfTheLastStep();
    }

    /** Of steps 1, 5, 8, 10 only 10 at 9, when a lady bars three, leaves two and two. */
    private static void tellOfTheLastStep() {
        StairSteps x = owned(3);
        x.seen(0, 4, 9, 0);
        x.seen(0, 6, 0, 0);
        x.seen(0, 7, 0, 0);
        x.seen(0, 9, 0, 0);
        due.is("22 four of them", x.whose(0), 1 << 1 | 1 << 5 | 1 << 8 | 1 << 10);
        due.is("23 the last step", x.tell(0), 1009);
    }

    private static StairSteps seenBoth() {
        StairSteps x = owned(0);
        x.seen(0, 10, 0, 1);
        x.seen(0, 10, 0, 0);
        return x;
    }

    private static void isOfNoneAndAll() {
        due.says("`int is(int f)`: IS, as bits. BAD.");
        due.says("NOTES 0 .. 5, as they come: of a FLIGHT x (0 .. 9) STEPS were BARRED at hour t (0 .. 23).");
        StairSteps x = new StairSteps();
        for (int f = 0; f < 3; f++) x.flight(f, 10);
        for (int f = 0; f < 3; f++) due.is("27 no notes of " + f, x.is(f), 63);
        x.note(1, 23, 2);
        due.is("27 clerk, poet", x.is(1), 6);
        due.is("27 of another", x.is(0) & x.is(2), 63);
        x.note(1, 0, 2);
        due.is("27 poet", x.is(1), 4);
        x.note(1, 18, 3);
        due.is("27 poet yet", x.is(1), 4);
        x.note(2, 16, 2);
        due.is("27 heir", x.is(2), 16);
        x.note(2, 16, 9);
        due.is("27 none", x.is(2), 0);
        x.note(0, 0, 0);
        due.is("27 nobody", x.is(0), 32);
        due.bad("27 no flight", Houses::empty, y -> y.is(0));
    }

    private static StairSteps noted(int... hoursAndSteps) {
        StairSteps x = owned(0);
        for (int n = 0; n < hoursAndSteps.length; n += 2) x.note(0, hoursAndSteps[n], hoursAndSteps[n + 1]);
        return x;
    }

    private static void look(String what, StairSteps x, int kinds, int want) {
        due.is("27 " + what, x.is(0), kinds);
        due.is("28 " + what, x.look(0), want);
    }

    private static void lookOfTwo() {
        due.says("LOOK: the hour t by which the most of these KINDS that bar as many are fewest; of like ones the least; none: no KIND.");
        look("all", noted(), 63, 12);
        look("plain, clerk, lady, heir", noted(0, 1), 27, 9);
        look("plain, clerk", noted(0, 1, 9, 1), 3, 18);
        look("plain, nobody", noted(9, 1, 18, 1), 33, 0);
        look("clerk, poet", noted(19, 2), 6, 0);
        look("poet, heir", noted(12, 2), 20, 0);
        look("lady, heir, plain", noted(18, 1, 0, 1), 25, 9);
    }

    private static void lookOfOneAndNone() {
        due.says("`int look(int f)`: LOOK. NONE. BAD.");
        look("poet", noted(18, 3), 4, 0);
        look("lady", noted(16, 3), 8, 0);
        look("nobody", noted(4, 0), 32, 0);
        due.onlyLooks("28 no kind", () -> noted(4, 9), x -> x.look(0), StairSteps.NONE);
        due.onlyLooks("28 no kind by two", () -> noted(4, 0, 9, 3), x -> x.look(0), StairSteps.NONE);
        due.bad("28 no flight", Houses::empty, x -> x.look(0));
    }

    private static StairSteps marked(int legs, int... rows) {
        StairSteps x = Due.with(0, 5, 3, legs);
        for (int n = 0; n < rows.length; n += 4) x.mark(0, rows[n], rows[n + 1], rows[n + 2], rows[n + 3]);
        return x;
    }

    private static void kindsOfNoneAndAll() {
        due.says("`int kinds(int i)`: WHAT, as bits. BAD.");
        due.says("MARKS 0 .. 5, as they come: a GOER with LEGS l (1 .. 4), LOAD x (0 .. 9), STRODE y (0 .. 9) at the most at hour t (0 .. 23).");
        StairSteps x = new StairSteps();
        x.flight(0, 5);
        for (int i = 0; i < 6; i++) x.goer(i, 1, 0);
        for (int i = 0; i < 6; i++) due.is("29 no marks of " + i, x.kinds(i), 63);
        x.mark(5, 4, 9, 23, 5);
        due.is("29 lover", x.kinds(5), 16);
        due.is("29 of another", x.kinds(0) & x.kinds(4), 63);
        x.mark(0, 4, 9, 0, 0);
        due.is("29 none strides by 0", x.kinds(0), 0);
        x.mark(1, 4, 9, 0, 9);
        due.is("29 none strides by 9", x.kinds(1), 0);
        x.mark(2, 1, 0, 0, 1);
        due.is("29 all stride by 1 at 0", x.kinds(2), 63);
        x.mark(2, 1, 0, 18, 1);
        due.is("29 all but the lover at 18", x.kinds(2), 47);
        due.bad("29 nobody", Houses::empty, y -> y.kinds(0));
    }

    private static void ask(String what, StairSteps x, int kinds, int want) {
        due.is("29 " + what, x.kinds(0), kinds);
        due.is("30 " + what, x.ask(0), want);
    }

    private static void askOfTwo() {
        due.says("ASK: 100 x and t (x 0 .. 9, t 0 .. 23), LEGS as they are, by which the most of these KINDS that stride as far are fewest; of like ones the least; none: no KIND.");
        ask("all, legs 4", marked(4), 63, 300);
        ask("all, legs 3", marked(3), 63, 608);
        ask("all, legs 2", marked(2), 63, 18);
        ask("all, legs 1", marked(1), 63, 18);
        ask("plain, lover", marked(4, 4, 9, 0, 4), 17, 18);
        ask("plain, porter", marked(4, 4, 0, 18, 4), 5, 300);
        ask("plain, porter, legs 1", marked(1, 4, 0, 18, 4), 5, 0);
        ask("child, coffin", marked(4, 4, 0, 0, 2), 10, 900);
        ask("child, coffin, legs 3", marked(3, 4, 0, 0, 2), 10, 600);
        ask("child, old", marked(4, 4, 9, 8, 2), 34, 0);
        ask("child, old, legs 2", marked(2, 4, 9, 8, 2), 34, 0);
        ask("porter, coffin", marked(4, 4, 9, 8, 1), 12, 0);
        ask("porter, coffin, legs 2", marked(2, 4, 9, 8, 1), 12, 0);
    }

    private static void askOfOneAndNone() {
        due.says("`int ask(int i)`: ASK. NONE. BAD.");
        ask("lover", marked(4, 4, 0, 18, 5), 16, 0);
        due.onlyLooks("30 no kind", () -> marked(4, 4, 0, 18, 9), x -> x.ask(0), StairSteps.NONE);
        due.bad("30 nobody", Houses::empty, x -> x.ask(0));
    }

    private static void forgetIsOfOneSort() {
        due.says("`int forget(int what)`: No SEEN ones (0), NOTES (1), MARKS (2): how many there were. BAD.");
        for (int what = 0; what <= 2; what++) {
            StairSteps x = Houses.full();
            int[] were = {x.count(5), x.count(6), x.count(7)};
            due.is("26 how many there were, " + what, x.forget(what), were[what]);
            for (int other = 0; other <= 2; other++) {
                due.is("26 " + what + " leaves " + other, x.count(5 + other), other == what ? 0 : were[other]);
            }
            due.is("26 none there were, " + what, x.forget(what), 0);
            due.is("26 nothing was refused", x.status(0), 2);
        }
    }

    private static void gapRests() {
        due.says("pairs that rest (bits: 0 both step by, 1 a goes on, 2 b, 3 both; neither would get more by doing otherwise)");
        for (int load = 0; load <= 9; load++) {
            StairSteps x = Houses.one();
            x.flight(1, 1);
            x.goer(3, 1, 1);
            x.loads(0, load);
            for (int other = 0; other <= 9; other++) {
                x.loads(1, other);
                due.is("31 loads " + load + ", " + other, x.gap(0, 1), 6);
                due.is("31 loads " + load + ", " + other + ", the other way", x.gap(1, 0), 6);
            }
        }
    }

    private static void dark(String what, StairSteps x, int n, int c, long above, long below) {
        due.is("32 " + what, x.dark(0, n, c), 1);
        due.is("34 above, " + what, x.part(0), above);
        due.is("34 below, " + what, x.part(1), below);
    }

    /** By twos, and the first stride is to the step below a plain owner's. */
    private static StairSteps below3() {
        return Due.with(0, 3, 0, 2);
    }

    private static void darkAtTheEnds() {
        due.says("DARK: a GOER does the first n (0 .. 6; fewer, if it has fewer) STRIDES of the row of UP; by c of 10 (0 .. 10) each of them");
        dark("no stride", below3(), 0, 10, 1, 1);
        dark("never higher", below3(), 6, 0, 1, 1);
        StairSteps sure = Due.with(0, 2, 0, 2);
        due.is("16 the first is by 1", sure.up(0, 0), 1);
        dark("always higher", sure, 1, 10, 0, 1);
        for (int c = 0; c <= 10; c++) {
            int[] above = {1, 9, 4, 7, 3, 1, 2, 3, 1, 1, 0}, below = {1, 10, 5, 10, 5, 2, 5, 10, 5, 10, 1};
            dark("by " + c + " of 10", sure, 1, c, above[c], below[c]);
        }
        due.says("the chance that there is no FALL (UP none: 0): THE FRACTION.");
        StairSteps stuck = Due.with(0, 5, 0, 1);
        stuck.goer(0, 4, 0);
        for (int n = 0; n <= 6; n++) {
            stuck.dark(1, 0, 0);
            due.is("34 another's chance", stuck.part(0), 1);
            dark("none, n " + n, stuck, n, 0, 0, 1);
        }
        due.is("32 no step", stuck.of(0, 3), 0);
    }

    private static void darkOfFewStrides() {
        StairSteps x = Houses.over();
        for (int n = 0; n <= 6; n++) dark("over, n " + n, x, n, 10, 1, 1);
        StairSteps fours = Due.with(0, 8, 0, 4);
        due.is("16 three strides", fours.up(0, StairSteps.NONE), 3);
        dark("two of three", fours, 2, 5, 1, 2);
        dark("all three", fours, 3, 5, 1, 2);
        dark("no more than three", fours, 4, 5, 1, 2);
        dark("nor than six", fours, 6, 5, 1, 2);
        StairSteps ones = Due.with(5, 8, 0, 1);
        due.is("16 eleven strides", ones.up(0, StairSteps.NONE), 11);
        dark("six of eleven", ones, 6, 5, 1, 1);
    }

    private static void darkEndsAtEleven() {
        due.says("comes down 1 STEP higher than it would have from where one is (11 at most)");
        StairSteps x = Due.with(0, 9, 0, 4);
        x.strides(0, 4);
        x.strides(0, 4);
        due.is("16 one stride", x.up(0, StairSteps.NONE), 1);
        dark("no step above 11", x, 6, 10, 1, 1);
        StairSteps ten = Due.with(0, 1, 0, 2);
        for (int n = 0; n < 5; n++) ten.strides(0, 2);
        dark("from 10", ten, 6, 10, 1, 1);
    }

    private static void darkIsInLowestTerms() {
        due.says("lowest terms, below above 0");
        for (int step = 1; step <= 10; step++) {
            for (int c = 0; c <= 10; c++) {
                StairSteps x = Due.with(0, step, 0, 3);
                x.dark(0, 6, c);
                due.holds("34 below above 0", x.part(1) > 0);
                due.holds("34 none below 0, no more than 1", x.part(0) >= 0 && x.part(0) <= x.part(1));
                for (int d = 2; d <= 10; d++) {
                    due.holds("34 by " + d + ", step " + step + ", c " + c, x.part(0) % d != 0 || x.part(1) % d != 0);
                }
            }
        }
    }

    /** Each outcome of the strides, higher or not, one by one. */
    private static void darkByAllOutcomes() {
        due.says("each of them, apart, comes down 1 STEP higher than it would have from where one is");
        int[] hours = {0, 9, 18};
        for (int kind = 0; kind < 6; kind++) {
            for (int t : hours) {
                for (int step = 1; step <= 10; step++) {
                    StairSteps x = Due.atHour(Due.with(kind, step, 4, 1 + step % 4), t);
                    outcomes(x, step % 7);
                    x.strides(0, step % 2 + 1);
                    outcomes(x, 3);
                    x.strides(0, 1);
                    outcomes(x, 6);
                }
            }
        }
    }

    private static void outcomes(StairSteps x, int n) {
        int many = Math.min(n, x.up(0, StairSteps.NONE)), bars = x.about(0, 2);
        if (many < 0) return;
        int from = x.of(0, 3);
        int[] row = new int[many];
        for (int k = 0; k < many; k++) row[k] = x.up(0, k);
        for (int c = 0; c <= 10; c += 3) {
            long ways = 0, all = 1;
            for (int k = 0; k < many; k++) all *= 10;
            for (int higher = 0; higher < 1 << many; higher++) ways += ways(from, row, higher, c, bars);
            x.dark(0, n, c);
            due.is("32 n " + n + " c " + c, x.part(0) * all, ways * x.part(1));
        }
    }

    private static long ways(int from, int[] row, int higher, int c, int bars) {
        long ways = 1;
        int p = from;
        for (int k = 0; k < row.length; k++) {
            int more = higher >> k & 1;
            p = Math.min(11, p + row[k] + more);
            ways *= more == 1 ? c : 10 - c;
            if ((bars >> p & 1) == 1) return 0;
        }
        return ways;
    }

    private static void yearsOfNone() {
        due.says("`int years(int seed, int n)`: YEARS. BAD.");
        due.onlyLooks("33 no year", Houses::full, x -> x.years(999999, 0), 0);
        due.onlyLooks("33 nobody", Houses::empty, x -> x.years(999999, 60), 0);
        due.onlyLooks("33 all are over", Houses::over, x -> x.years(7, 60), 0);
    }

    private static void yearsByStrides() {
        due.says("if there and not OVER, strides by X by 1048576 (cut), by as many as he STRIDES left over, and 1; then the HOUR is one more (9999 stays): how many FALLS are more.");
        int[] seeds = {0, 1, 5, 7, 65536, 123456, 999998, 999999};
        int[] years = {0, 1, 2, 9, 30, 59, 60};
        Due.Made[] houses = {Houses::one, Houses::lived, Houses::full, KnownEdgesTest::below3};
        for (int seed : seeds) {
            for (int n : years) {
                for (Due.Made made : houses) {
                    due.is("33 seed " + seed + ", n " + n, made.make().years(seed, n), gone(made.make(), seed, n));
                }
            }
        }
    }

    private static void yearsBeginWithTheSeed() {
        due.says("X is SEED at first; n times X becomes X times 1103515245 and 12345, by 2147483648 what is left over");
        for (int seed = 0; seed < 300; seed++) oneYear(seed);
        for (int seed = 999700; seed <= 999999; seed++) oneYear(seed);
    }

    /** X is a multiple of 65536 or of 1048576, or is near one. */
    private static void yearsAreCut() {
        due.says("GOER X by 65536 (cut), by 6 left over");
        for (int seed = 0; seed <= 999999; seed++) {
            long number = (seed * 1103515245L + 12345L) % 2147483648L;
            long left = number % 1048576, near = number % 65536;
            if (left < 2048 || left > 1048576 - 2048 || near < 64 || near > 65536 - 64) oneYear(seed);
        }
    }

    /** One year, of a goer of legs 4 who falls by 3 alone. */
    private static void oneYear(int seed) {
        long number = (seed * 1103515245L + 12345L) % 2147483648L;
        boolean first = number / 65536 % 6 == 0, barred = number / 1048576 % 4 + 1 == 3;
        StairSteps x = Due.with(0, 3, 0, 4);
        due.is("33 one year by " + seed, x.years(seed, 1), first && barred ? 1 : 0);
        for (int i = 1; i < 6; i++) x.goer(0, 4, 0);
        due.is("33 one year of six by " + seed, x.years(seed, 1), barred ? 1 : 0);
    }

    /** Six goers were there before; only the ones who are there now stride. */
    private static void yearsOfThoseWhoAreThere() {
        due.says("if there and not OVER");
        for (int seed = 0; seed < 30; seed++) {
            StairSteps x = Houses.full();
            x.tenement();
            x.flight(3, 1);
            x.goer(0, 2, 0);
            x.hours(9);
            StairSteps as = Due.atHour(Due.with(3, 1, 0, 2), 9);
            due.is("33 of one who is there, by " + seed, x.years(seed, 60), as.years(seed, 60));
            due.is("33 by calls, by " + seed, as.years(seed, 60), gone(Due.atHour(Due.with(3, 1, 0, 2), 9), seed, 60));
            x.tenement();
            x.flight(3, 1);
            due.is("33 of nobody who is there, by " + seed, x.years(seed, 60), 0);
        }
    }

    /** The years gone by in strides and hours, call by call. */
    private static int gone(StairSteps x, int seed, int n) {
        int falls = x.count(4);
        long number = seed;
        for (int year = 0; year < n; year++) {
            number = (number * 1103515245L + 12345L) % 2147483648L;
            int i = (int) (number / 65536 % 6);
            if (i < x.count(0) && x.of(i, 3) < 11) x.strides(i, (int) (number / 1048576 % x.of(i, 5)) + 1);
            x.hours(1);
        }
        return x.count(4) - falls;
    }

    private static void yearsAtTheLastHour() {
        due.says("then the HOUR is one more (9999 stays)");
        for (int hour = 9997; hour <= 9999; hour++) {
            int unlike = 0;
            for (int seed = 0; seed < 40; seed++) {
                int byCalls = gone(ladyAt(hour), seed, 20);
                due.is("33 seed " + seed + " at " + hour, ladyAt(hour).years(seed, 20), byCalls);
                if (byCalls != ladyAt(hour % 24).years(seed, 20)) unlike++;
            }
            due.holds("33 the hour that stays can be told at " + hour, unlike > 0);
        }
    }

    private static StairSteps ladyAt(int hour) {
        StairSteps x = new StairSteps();
        x.flight(3, 2);
        for (int i = 0; i < 6; i++) x.goer(0, 2, 0);
        int left = hour;
        for (; left > 99; left -= 99) x.hours(99);
        if (left > 0) x.hours(left);
        return x;
    }
}
