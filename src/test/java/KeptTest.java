/** What a tenement, an image, a refusal leave as it is; what begins anew; how many there are; the digest. */
public final class KeptTest {
    private static final Due due = new Due("KeptTest");

    public static void main(String[] args) {
        tenementBeginsAnew();
        tenementKeepsTheRest();
        imagesAreOverwritten();
        imagesKeepAllButThree();
        imagesKeepWhatMayBeUndone();
        imagesOfTheEmptyAndTheFull();
        imagesAreApart();
        statusOfEachReason();
        statusStays();
        theFractionStays();
        ofTellsSix();
        eachHasItsOwn();
        aboutTellsThree();
        countTellsTen();
        digestOfTheEmpty();
        digestOfEachNumber();
        digestOfTheFull();
        due.end();
    }

    private static void tenementBeginsAnew() {
        due.says("`int tenement()`: All as at first (but for IMAGES, THE TEXT, THE FRACTION, STATUS): how many GOERS there were.");
        StairSteps x = Houses.full();
        due.is("2 goers there were", x.tenement(), 6);
        for (int what = 0; what <= 8; what++) due.is("2 count " + what, x.count(what), 0);
        due.is("2 none there were", x.tenement(), 0);
        due.is("2 nobody is stuck", x.stuck(), 0);
        due.is("2 nothing to undo", x.undo(), StairSteps.NO);
        due.is("2 a flight", x.flight(0, 5), 0);
        due.is("2 its bars", x.about(0, 2), 32);
        due.is("2 none was seen of it", x.whose(0), 2046);
        due.is("2 no notes of it", x.is(0), 63);
        for (int i = 0; i < 6; i++) {
            due.is("2 a goer", x.goer(2, 4, 0), i);
            due.is("2 no marks of one", x.kinds(i), 63);
            due.is("2 at the foot, no load", x.of(i, 3) + x.of(i, 4), 0);
        }
        due.is("2 there were", x.tenement(), 6);
    }

    private static void tenementKeepsTheRest() {
        StairSteps x = Houses.full(), as = Houses.full();
        x.tenement();
        due.is("2 the text's length", x.count(9), Houses.TEXT.length());
        due.is("2 the fraction", x.part(0) * 100 + x.part(1), 710);
        for (int what = 0; what <= 2; what++) due.is("2 status " + what, x.status(what), as.status(what));
        for (int i = 0; i < 2; i++) {
            due.is("2 image " + i, x.from(i), 1);
            as.from(i);
            due.is("2 all of image " + i, x.digest(), as.digest());
            x.tenement();
        }
        due.is("2 the text", x.read(), 5);
        due.is("2 what it tells", x.count(3), 31);
    }

    private static void imagesAreOverwritten() {
        due.says("`int image(int i)`: An IMAGE is kept: 1. BAD.");
        for (int i = 0; i < 2; i++) {
            StairSteps x = Houses.full();
            long before = x.digest();
            due.is("35 kept " + i, x.image(i), 1);
            due.is("35 kept again " + i, x.image(i), 1);
            due.is("35 nothing is changed", x.digest(), before);
            x.tenement();
            x.from(i);
            due.is("35 the last one counts", x.digest(), before);
            Whole was = new Whole(kept(i, 1 - i)), is = new Whole(kept(1 - i, i));
            due.is("35 both are alike: " + is.firstUnlike(was), is.unlike(was), 0);
        }
    }

    private static StairSteps kept(int first, int second) {
        StairSteps x = Houses.full();
        x.image(first);
        x.image(second);
        return x;
    }

    private static void imagesKeepAllButThree() {
        due.says("IMAGES 0, 1 keep all but them, THE TEXT, THE FRACTION and STATUS");
        for (int i = 0; i < 2; i++) {
            StairSteps x = Houses.lived();
            x.image(i);
            x.clear();
            x.type('z');
            x.dark(0, 0, 0);
            x.hours(0);
            x.loads(0, 0);
            x.tenement();
            due.is("36 on", x.from(i), 1);
            due.is("36 the text stays", x.count(9), 1);
            due.is("36 the fraction stays", x.part(0) * 100 + x.part(1), 101);
            due.is("36 bad ones stay", x.status(0), 3);
            due.is("36 no ones stay", x.status(1), 4);
            due.is("36 full ones stay", x.status(2), 1);
            due.is("36 the text is as it was", x.read(), -10);
        }
        StairSteps both = Houses.full();
        both.from(0);
        due.is("36 an image keeps no image", both.from(1), 1);
        due.is("36 the other is as it was", both.digest(), other());
    }

    private static long other() {
        StairSteps x = Houses.full();
        x.from(1);
        return x.digest();
    }

    private static void imagesKeepWhatMayBeUndone() {
        due.says("what may be undone they keep; it goes on from one.");
        StairSteps x = new StairSteps();
        for (int n = 0; n < 9; n++) x.hours(1);
        x.image(0);
        for (int n = 0; n < 8; n++) x.undo();
        x.image(1);
        due.is("36 none", x.count(8), 0);
        x.from(0);
        due.is("36 eight", x.count(8), 8);
        for (int n = 8; n >= 1; n--) due.is("36 undone", x.undo(), n);
        due.is("36 no ninth", x.undo(), StairSteps.NO);
        for (int n = 0; n < 20; n++) x.hours(50);
        x.from(0);
        due.is("36 the hour", x.count(3), 9);
        due.is("36 undone again", x.undo(), 8);
        due.is("36 and again", x.undo(), 7);
        x.from(1);
        due.is("36 none again", x.undo(), StairSteps.NO);
        due.is("36 the hour of the other", x.count(3), 1);
    }

    private static void imagesOfTheEmptyAndTheFull() {
        StairSteps x = new StairSteps();
        long empty = x.digest();
        x.image(0);
        x.flight(0, 5);
        x.goer(0, 4, 0);
        x.seen(0, 1, 1, 1);
        x.note(0, 1, 1);
        x.mark(0, 1, 1, 1, 1);
        x.image(1);
        long lived = x.digest();
        x.from(0);
        due.is("36 of an empty one", x.digest(), empty);
        due.is("36 nobody is there", x.of(0, 0), StairSteps.BAD);
        due.is("36 no flight is there", x.about(0, 0), StairSteps.BAD);
        due.is("36 a flight comes", x.flight(1, 2), 0);
        x.from(1);
        due.is("36 of the other", x.digest(), lived);
        due.is("36 somebody is there", x.of(0, 1), 4);
        StairSteps full = Houses.full();
        full.image(0);
        full.tenement();
        full.from(0);
        due.is("36 full of flights", full.flight(0, 1), StairSteps.FULL);
        due.is("36 full of goers", full.goer(0, 1, 0), StairSteps.FULL);
        due.is("36 full of seen ones", full.seen(0, 1, 1, 1), StairSteps.FULL);
        due.is("36 full of notes", full.note(0, 1, 1), StairSteps.FULL);
        due.is("36 full of marks", full.mark(0, 1, 1, 1, 1), StairSteps.FULL);
    }

    /** What is done behind from() or image() does not reach into the image. */
    private static void imagesAreApart() {
        for (int i = 0; i < 2; i++) {
            StairSteps x = Houses.full();
            x.image(i);
            long before = x.digest();
            for (int turn = 0; turn < 2; turn++) {
                x.strides(0, 2);
                x.loads(5, 7);
                x.sells(2, 9);
                x.hours(20);
                x.undo();
                for (int what = 0; what <= 2; what++) x.forget(what);
                x.seen(1, 2, 3, 1);
                x.note(1, 2, 3);
                x.mark(1, 2, 3, 4, 5);
                due.holds("36 much is changed", x.digest() != before);
                x.from(i);
                due.is("36 image " + i + ", all is back", x.digest(), before);
            }
            x.tenement();
            x.flight(1, 1);
            x.goer(1, 1, 0);
            x.from(i);
            due.is("36 image " + i + ", all is back again", x.digest(), before);
            for (int n = 0; n < 8; n++) due.holds("36 undone", x.undo() >= 0);
        }
    }

    private static void status(StairSteps x, int bad, int no, int full) {
        due.is("37 bad", x.status(0), bad);
        due.is("37 no", x.status(1), no);
        due.is("37 full", x.status(2), full);
    }

    private static void statusOfEachReason() {
        due.says("`int status(int what)`: STATUS: BAD (0), NO (1), FULL (2). -1: another what (counts as BAD).");
        StairSteps x = new StairSteps();
        status(x, 0, 0, 0);
        for (int n = 1; n <= 30; n++) {
            x.hours(0);
            status(x, n, n - 1, Math.max(0, n - 1));
            x.undo();
            status(x, n, n, n - 1);
            if (n == 1) for (int f = 0; f < 3; f++) x.flight(0, 1);
            x.flight(0, 1);
            status(x, n, n, n);
        }
        due.is("37 below", x.status(-1), -1);
        due.is("37 above", x.status(3), -1);
        status(x, 32, 30, 30);
        due.says("(where others are told they count as these)");
        due.is("16 its own bad", x.up(0, 0), -10);
        status(x, 33, 30, 30);
    }

    private static void statusStays() {
        StairSteps x = Houses.full();
        int bad = x.status(0), no = x.status(1), full = x.status(2);
        x.image(0);
        x.tenement();
        status(x, bad, no, full);
        x.from(0);
        status(x, bad, no, full);
        x.read();
        status(x, bad, no, full);
        x.clear();
        x.read();
        status(x, bad, no, full);
    }

    private static void theFractionStays() {
        due.says("`long part(int what)`: THE FRACTION: above (0), below (1). BAD.");
        StairSteps x = Houses.lived();
        long above = x.part(0), below = x.part(1);
        due.is("34 above", above, 7);
        due.is("34 below", below, 10);
        x.dark(0, 7, 0);
        x.dark(5, 0, 0);
        x.from(0);
        x.read();
        x.tenement();
        x.dark(0, 0, 0);
        due.is("34 above stays", x.part(0), above);
        due.is("34 below stays", x.part(1), below);
        due.says("`int dark(int i, int n, int c)`: DARK is THE FRACTION: 1. BAD.");
        StairSteps y = Houses.one();
        due.is("32 it is", y.dark(0, 0, 0), 1);
        due.is("34 above then", y.part(0), 1);
        due.is("34 below then", y.part(1), 1);
    }

    private static void ofTellsSix() {
        due.says("`int of(int i, int what)`: Of a GOER: KIND (0), LEGS (1), FLIGHT (2), STEP (3), LOAD (4), STRIDES (5). BAD.");
        StairSteps x = new StairSteps();
        for (int f = 0; f < 3; f++) x.flight(5, 1);
        for (int i = 0; i < 6; i++) x.goer(5 - i, 4 - i % 4, i / 2);
        x.strides(3, 1);
        x.loads(3, 7);
        int[] want = {2, 1, 1, 1, 7, 1};
        for (int what = 0; what <= 5; what++) due.is("14 of 3, " + what, x.of(3, what), want[what]);
        int[] last = {0, 3, 2, 0, 0, 3};
        for (int what = 0; what <= 5; what++) due.is("14 of 5, " + what, x.of(5, what), last[what]);
        int[] first = {5, 4, 0, 0, 0, 1};
        for (int what = 0; what <= 5; what++) due.is("14 of 0, " + what, x.of(0, what), first[what]);
    }

    /** Steps and loads of all goers, and steps of all owners, are set one behind the other, and none sets another. */
    private static void eachHasItsOwn() {
        StairSteps x = new StairSteps();
        for (int f = 0; f < 3; f++) x.flight(5, 8 + f);
        for (int i = 0; i < 6; i++) x.goer(0, 4, i % 3);
        for (int i = 0; i < 6; i++) {
            x.loads(i, 9 - i);
            if (i > 0) x.strides(i, Math.min(4, i));
            if (i > 4) x.strides(i, 1);
        }
        for (int f = 0; f < 3; f++) x.sells(f, 1 + f);
        x.hours(3);
        for (int i = 0; i < 6; i++) {
            due.is("14 step of " + i, x.of(i, 3), i);
            due.is("14 load of " + i, x.of(i, 4), 9 - i);
        }
        for (int f = 0; f < 3; f++) due.is("15 step " + f, x.about(f, 1), 1 + f);
        due.is("38 the hour", x.count(3), 3);
        due.is("38 falls", x.count(4), 0);
    }

    private static void aboutTellsThree() {
        due.says("`int about(int f, int what)`: Of a FLIGHT: KIND of its OWNER (0), his STEP (1), BARS (2; bits). BAD.");
        StairSteps x = new StairSteps();
        for (int f = 0; f < 3; f++) x.flight(3 + f, 3 * f + 1);
        x.hours(9);
        int[][] want = {{3, 1, 14}, {4, 4, 48}, {5, 7, 128}};
        for (int f = 0; f < 3; f++) {
            for (int what = 0; what <= 2; what++) due.is("15 about " + f + ", " + what, x.about(f, what), want[f][what]);
        }
    }

    private static void countTellsTen() {
        due.says("`int count(int what)`: How many: 0 GOERS, 1 FLIGHTS, 2 OVER, 3 the HOUR, 4 FALLS, 5 SEEN, 6 NOTES, 7 MARKS, 8 that may be undone, 9 bytes of THE TEXT. BAD.");
        StairSteps x = Houses.full();
        int[] want = {6, 3, 0, 22, 1, 5, 6, 6, 8, Houses.TEXT.length()};
        for (int what = 0; what <= 9; what++) due.is("38 count " + what, x.count(what), want[what]);
        due.is("38 one is over", Houses.over().count(2), 1);
        due.is("38 150 bytes", Houses.fullText().count(9), 150);
    }

    private static long mix(long... values) {
        long h = 1777;
        for (long v : values) h = 31 * h + v;
        return h;
    }

    private static void digestOfTheEmpty() {
        due.says("`long digest()`: h = 1777; then h = 31 h + v for each v: count(0) to count(9); of FLIGHTS KIND, STEP; of GOERS what of() tells for 0 to 4; of SEEN f, s, t, barred; of NOTES f, t, x; of MARKS i, l, x, t, y; THE FRACTION.");
        due.is("39 of an empty one", new StairSteps().digest(), mix(0, 0, 0, 0, 0, 0, 0, 0, 0, 0, 0, 1));
        StairSteps x = new StairSteps();
        x.type('a');
        due.is("39 of a text", x.digest(), mix(0, 0, 0, 0, 0, 0, 0, 0, 0, 1, 0, 1));
        x.status(9);
        x.undo();
        due.is("39 not of status", x.digest(), mix(0, 0, 0, 0, 0, 0, 0, 0, 0, 1, 0, 1));
        x.image(0);
        due.is("39 not of images", x.digest(), mix(0, 0, 0, 0, 0, 0, 0, 0, 0, 1, 0, 1));
        x.clear();
        x.type('b');
        due.is("39 not of the bytes", x.digest(), mix(0, 0, 0, 0, 0, 0, 0, 0, 0, 1, 0, 1));
    }

    private static void digestOfEachNumber() {
        StairSteps x = new StairSteps();
        x.flight(2, 9);
        due.is("39 a flight", x.digest(), mix(0, 1, 0, 0, 0, 0, 0, 0, 0, 0, 2, 9, 0, 1));
        x.goer(4, 3, 0);
        due.is("39 a goer", x.digest(), mix(1, 1, 0, 0, 0, 0, 0, 0, 0, 0, 2, 9, 4, 3, 0, 0, 0, 0, 1));
        x.seen(0, 8, 17, 1);
        due.is("39 seen", x.digest(), mix(1, 1, 0, 0, 0, 1, 0, 0, 0, 0, 2, 9, 4, 3, 0, 0, 0, 0, 8, 17, 1, 0, 1));
        x.forget(0);
        x.note(0, 16, 7);
        due.is("39 a note", x.digest(), mix(1, 1, 0, 0, 0, 0, 1, 0, 0, 0, 2, 9, 4, 3, 0, 0, 0, 0, 16, 7, 0, 1));
        x.forget(1);
        x.mark(0, 2, 6, 15, 5);
        due.is("39 a mark", x.digest(), mix(1, 1, 0, 0, 0, 0, 0, 1, 0, 0, 2, 9, 4, 3, 0, 0, 0, 0, 2, 6, 15, 5, 0, 1));
        x.forget(2);
        x.loads(0, 9);
        x.strides(0, 3);
        x.hours(60);
        due.is("39 what is done", x.digest(), mix(1, 1, 0, 60, 0, 0, 0, 0, 3, 0, 2, 9, 4, 3, 0, 3, 9, 0, 1));
    }

    /** By the calls that tell the same numbers; what was seen, noted and marked is known from Houses. */
    private static void digestOfTheFull() {
        StairSteps x = Houses.full();
        long h = 1777;
        for (int what = 0; what <= 9; what++) h = 31 * h + x.count(what);
        for (int f = 0; f < 3; f++) for (int what = 0; what <= 1; what++) h = 31 * h + x.about(f, what);
        for (int i = 0; i < 6; i++) for (int what = 0; what <= 4; what++) h = 31 * h + x.of(i, what);
        int[] seen = {0, 6, 10, 1, 1, 3, 4, 0, 0, 4, 20, 0, 1, 10, 18, 0, 2, 10, 23, 0};
        int[] notes = {0, 0, 1, 1, 6, 1, 0, 12, 1, 1, 18, 2, 0, 0, 2, 2, 23, 1};
        int[] marks = {0, 1, 0, 0, 1, 1, 2, 2, 5, 2, 2, 3, 4, 10, 3, 3, 4, 6, 15, 1, 4, 1, 8, 20, 2, 5, 3, 9, 23, 2};
        for (int v : seen) h = 31 * h + v;
        for (int v : notes) h = 31 * h + v;
        for (int v : marks) h = 31 * h + v;
        for (int what = 0; what <= 1; what++) h = 31 * h + x.part(what);
        due.is("39 of the full one", x.digest(), h);
    }
}
