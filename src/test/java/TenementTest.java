/** Promises 1 to 7: a new object, tenement, flight, goer, type, clear, read. */
public final class TenementTest {
    private static final Due due = new Due("TenementTest");

    public static void main(String[] args) {
        aNewObjectIsEmpty();
        tenementKeepsImagesTextFractionStatus();
        flightsComeUpToThree();
        goersComeUpToSix();
        typeTakesBytes();
        clearEmptiesTheText();
        readTakesTheTenement();
        readFindsTheFirstFault();
        readLooksAtTheTenementAsItGoes();
        readEndsWithTheText();
        readKeepsAllAtAFault();
        due.end();
    }

    private static void aNewObjectIsEmpty() {
        StairSteps x = new StairSteps();
        for (int what = 0; what <= 9; what++) due.is("1 count " + what, x.count(what), 0);
        due.is("1 part 0", x.part(0), 0);
        due.is("1 part 1", x.part(1), 1);
        for (int what = 0; what <= 2; what++) due.is("1 status " + what, x.status(what), 0);
        due.is("1 no image 0", x.from(0), StairSteps.NO);
        due.is("1 no image 1", x.from(1), StairSteps.NO);
        due.is("1 nothing to undo", x.undo(), StairSteps.NO);
        due.is("1 nobody is stuck", x.stuck(), 0);
    }

    private static void tenementKeepsImagesTextFractionStatus() {
        StairSteps x = Due.with(0, 3, 0, 2);
        x.goer(1, 1, 0);
        x.hours(5);
        x.seen(0, 1, 1, 1);
        x.note(0, 1, 1);
        x.mark(0, 1, 1, 1, 1);
        x.strides(0, 1);
        x.strides(0, 2);
        x.image(1);
        x.type(65);
        x.dark(0, 1, 3);
        x.strides(0, 9);
        x.strides(0, 0);
        long below = x.part(1);
        due.is("2 goers there were", x.tenement(), 2);
        for (int what = 0; what <= 8; what++) due.is("2 count " + what, x.count(what), 0);
        due.is("2 the text stays", x.count(9), 1);
        due.is("2 the fraction stays", x.part(1), below);
        due.is("2 status stays: bad", x.status(0), 1);
        due.is("2 status stays: no", x.status(1), 1);
        due.is("2 nothing to undo", x.undo(), StairSteps.NO);
        due.is("2 the image stays", x.from(1), 1);
        due.is("2 from the image", x.count(0), 2);
        due.is("2 again", x.tenement(), 2);
        due.is("2 twice", x.tenement(), 0);
        x.flight(0, 5);
        x.goer(0, 4, 0);
        due.is("2 a goer is new again", x.of(0, 3) + x.of(0, 4), 0);
    }

    private static void flightsComeUpToThree() {
        StairSteps x = new StairSteps();
        due.is("3 kind below", x.flight(-1, 1), StairSteps.BAD);
        due.is("3 kind above", x.flight(6, 1), StairSteps.BAD);
        due.is("3 the foot", x.flight(0, 0), StairSteps.BAD);
        due.is("3 the top", x.flight(0, 11), StairSteps.BAD);
        due.is("3 first", x.flight(0, 1), 0);
        due.is("3 second", x.flight(5, 10), 1);
        due.is("3 third", x.flight(3, 4), 2);
        due.is("3 full", x.flight(0, 1), StairSteps.FULL);
        due.is("3 bad ahead of full", x.flight(6, 1), StairSteps.BAD);
        due.is("3 kind", x.about(2, 0), 3);
        due.is("3 step", x.about(2, 1), 4);
        due.is("3 three", x.count(1), 3);
        due.is("3 bad ones", x.status(0), 5);
        due.is("3 full ones", x.status(2), 1);
    }

    private static void goersComeUpToSix() {
        StairSteps x = new StairSteps();
        due.is("4 no flight", x.goer(0, 1, 0), StairSteps.BAD);
        x.flight(0, 5);
        x.flight(1, 6);
        due.is("4 kind below", x.goer(-1, 1, 0), StairSteps.BAD);
        due.is("4 kind above", x.goer(6, 1, 0), StairSteps.BAD);
        due.is("4 no legs", x.goer(0, 0, 0), StairSteps.BAD);
        due.is("4 five legs", x.goer(0, 5, 0), StairSteps.BAD);
        due.is("4 flight below", x.goer(0, 1, -1), StairSteps.BAD);
        due.is("4 flight above", x.goer(0, 1, 2), StairSteps.BAD);
        for (int i = 0; i < 6; i++) due.is("4 goer " + i, x.goer(i, i % 4 + 1, i % 2), i);
        due.is("4 full", x.goer(0, 1, 0), StairSteps.FULL);
        due.is("4 bad ahead of full", x.goer(0, 1, 2), StairSteps.BAD);
        for (int i = 0; i < 6; i++) {
            due.is("4 kind of " + i, x.of(i, 0), i);
            due.is("4 legs of " + i, x.of(i, 1), i % 4 + 1);
            due.is("4 flight of " + i, x.of(i, 2), i % 2);
            due.is("4 step of " + i, x.of(i, 3), 0);
            due.is("4 load of " + i, x.of(i, 4), 0);
        }
    }

    private static void typeTakesBytes() {
        StairSteps x = new StairSteps();
        due.is("5 below", x.type(-1), StairSteps.BAD);
        due.is("5 above", x.type(128), StairSteps.BAD);
        for (int n = 1; n <= 150; n++) due.is("5 byte " + n, x.type(n % 2 == 0 ? 0 : 127), n);
        due.is("5 full", x.type(32), StairSteps.FULL);
        due.is("5 bad ahead of full", x.type(128), StairSteps.BAD);
        due.is("5 bytes", x.count(9), 150);
    }

    private static void clearEmptiesTheText() {
        StairSteps x = new StairSteps();
        due.is("6 none", x.clear(), 0);
        x.type(97);
        x.type(98);
        due.is("6 two", x.clear(), 2);
        due.is("6 none again", x.count(9), 0);
        due.is("6 one", x.type(99), 1);
    }

    private static void readTakesTheTenement() {
        StairSteps x = Due.with(2, 2, 4, 4);
        x.seen(0, 1, 1, 1);
        x.note(0, 1, 1);
        x.mark(0, 1, 1, 1, 1);
        x.hours(30);
        due.is("7 items", Due.read(x, "tenement;flight 3 8;goer 2 4 0;load 0 05;stride 0 3;hours 99;"), 6);
        due.is("7 goers", x.count(0), 1);
        due.is("7 flights", x.count(1), 1);
        due.is("7 hour", x.count(3), 99);
        due.is("7 seen", x.count(5), 0);
        due.is("7 notes", x.count(6), 0);
        due.is("7 marks", x.count(7), 0);
        due.is("7 nothing to undo", x.count(8), 0);
        due.is("7 kind of the owner", x.about(0, 0), 3);
        due.is("7 step of the owner", x.about(0, 1), 8);
        due.is("7 kind", x.of(0, 0), 2);
        due.is("7 legs", x.of(0, 1), 4);
        due.is("7 step", x.of(0, 3), 3);
        due.is("7 load", x.of(0, 4), 5);
        due.is("7 the text stays", x.count(9), 61);
        due.is("7 read again", x.read(), 6);
        due.is("7 tenement alone", Due.read(x, "  tenement  ;  "), 1);
        due.is("7 nobody", x.count(0), 0);
        due.is("7 no blanks needed", Due.read(x, "tenement;flight0 4;goer00 4 0;load0 0;hours1;"), 5);
        due.is("7 nothing refused", x.status(0) + x.status(1) + x.status(2), 0);
        due.is("7 a fall in the text", Due.read(x, "tenement;flight 0 1;goer 0 1 0;stride 0 1;stride 0 1;"), 5);
        due.is("7 falls", x.count(4), 2);
        due.is("7 at the foot", x.of(0, 3), 0);
    }

    private static void fault(String text, int place) {
        StairSteps x = new StairSteps();
        due.is("7 [" + text + "]", Due.read(x, text), -10 - place);
        due.is("7 not refused [" + text + "]", x.status(0) + x.status(1) + x.status(2), 0);
    }

    private static void readFindsTheFirstFault() {
        fault("", 0);
        fault("   ", 3);
        fault("tene", 0);
        fault(" tenements;", 1);
        fault("Tenement;", 0);
        fault("tenement", 8);
        fault("tenement ", 9);
        fault("tenement 1;", 9);
        fault("tenement;;", 9);
        fault("tenement; tenement;", 10);
        fault("flight 0 1;tenement;", 0);
        fault(";tenement;", 0);
        fault("7;tenement;", 0);
        fault("-", 0);
        fault("tenement;\n", 9);
        fault("tenement;flights 0 1;", 9);
        fault("xenement;", 0);
        fault("tenement;hoursz 5;", 9);
        fault("tenement;flight ;", 16);
        fault("tenement;flight 1 a;", 18);
        fault("tenement;flight 5 1;goer 5 1 0;", -13);
        fault("tenement;flight 6 1;", 16);
        fault("tenement;flight 0 0;", 18);
        fault("tenement;flight 0 11;", 18);
        fault("tenement;flight 0 010;", 18);
        fault("tenement;flight 000 1;", 16);
        fault("tenement;flight 0 1", 19);
        fault("tenement;flight 0 1 1;", 20);
        fault("tenement;flight 0 1flight 0 1;", 19);
        fault("tenement;flight 0 1;flight 0 1;flight 0 1;flight", 42);
        fault("tenement;flight 0 1;flight 0 1;flight 0 1;", 0 - 14);
        fault("tenement;goer 0 1 0;", 18);
        fault("tenement;flight 0 1;goer 6 1 0;", 25);
        fault("tenement;flight 0 1;goer 0 0 0;", 27);
        fault("tenement;flight 0 1;goer 0 5 0;", 27);
        fault("tenement;flight 0 1;goer 0 1 1;", 29);
        fault("tenement;load 0 1;", 14);
        fault("tenement;stride 0 1;", 16);
        fault("tenement;hours 0;", 15);
        fault("tenement;hours 100;", 15);
        fault("tenement;hours x;", 15);
        fault("tenement;hours", 14);
        fault("tenement;hours 5", 16);
        fault("tenement;hours 5#", 16);
    }

    private static void readLooksAtTheTenementAsItGoes() {
        String six = "tenement;flight 0 4;goer 0 4 0;goer 0 4 0;goer 0 4 0;goer 0 4 0;goer 0 4 0;goer 0 4 0;";
        fault(six, -18);
        fault(six + "goer 9 9 9", six.length());
        String one = "tenement;flight 0 4;goer 4 4 0;";
        fault(one + "load 1 1;", one.length() + 5);
        fault(one + "load 0 10;", one.length() + 7);
        fault(one + "load 0 0;", -14);
        fault(one + "stride 0 0;", one.length() + 9);
        fault(one + "stride 0 5;", one.length() + 9);
        fault(one + "hours 18;stride 0 5;", -15);
        fault(one + "stride 1 1;", one.length() + 7);
        String over = one + "stride 0 3;stride 0 4;stride 0 4;";
        fault(over + "stride 0 1;", over.length() + 7);
        fault(over + "load 0 3;", -17);
        String porter = "tenement;flight 0 4;goer 2 4 0;load 0 9;";
        fault(porter + "stride 0 2;", porter.length() + 9);
        fault(porter + "stride 0 1;", -15);
    }

    private static void readEndsWithTheText() {
        StairSteps x = new StairSteps();
        due.is("7 a longer one", Due.read(x, "tenement;hours 55;hours 1;"), 3);
        due.is("7 its bytes are gone", Due.read(x, "tenement;hours 5"), -26);
        due.is("7 its letters, too", Due.read(x, "tenement;hour"), -19);
        due.is("7 its items, too", Due.read(x, "tenement;"), 1);
        due.is("7 the hour", x.count(3), 0);
    }

    private static void readKeepsAllAtAFault() {
        StairSteps x = Due.with(2, 2, 4, 4);
        x.hours(3);
        x.seen(0, 1, 1, 1);
        Due.write(x, "tenement;flight 3 8;flight 3 8;hours 5;goer 0 1 0;goer 0 0 0;");
        long before = x.digest();
        due.is("7 fault", x.read(), -10 - 57);
        due.is("7 all stays", x.digest(), before);
        due.is("7 may be undone yet", x.undo(), 0);
    }
}
