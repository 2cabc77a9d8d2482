/** THE TEXT: what may stand where, and the place of the first fault. */
public final class TextTest {
    private static final Due due = new Due("TextTest");
    private static final String ONE = "tenement;flight 0 4;goer 0 4 0;";

    public static void main(String[] args) {
        theLongestText();
        itemsAreEnded();
        tenementComesOnceAndFirst();
        wordsAreOfLetters();
        figuresAreNumbers();
        blanksStandBetween();
        bytesThatBeginNone();
        flightsAreAsTold();
        goersAreAsTold();
        loadsAreAsTold();
        stridesAreAsTold();
        hoursAreAsTold();
        theTextEndsTooEarly();
        everyTextThatIsCutShort();
        bytesOfAFormerText();
        aFaultLeavesAll();
        whatIsReadTakesThePlace();
        due.end();
    }

    private static void reads(String text, int items) {
        StairSteps x = new StairSteps();
        due.is("7 [" + text + "]", Due.read(x, text), items);
        due.is("7 all bytes came", x.count(9), text.length());
        due.is("7 not refused", x.status(0) + x.status(1) + x.status(2), 0);
    }

    /** The fault is where the bar stands; the bar is no byte of the text. */
    private static void fault(String marked) {
        int place = marked.indexOf('|');
        String text = marked.substring(0, place) + marked.substring(place + 1);
        reads(text, -10 - place);
    }

    private static void theLongestText() {
        due.says("THE TENEMENT is told by a TEXT (150 bytes at most) of ITEMS");
        String text = Houses.longest();
        due.is("150 bytes", text.length(), 150);
        reads(text, 5 + (150 - Houses.TEXT.length()) / 8);
        fault(text.substring(0, 149) + "|;");
        fault(text.substring(0, 149) + "|x");
        String stops = "tenement" + " ".repeat(141) + ";";
        reads(stops, 1);
        fault(stops.substring(0, 149) + "|-");
        fault(stops.substring(0, 149) + " |");
        fault(" ".repeat(150) + "|");
        fault(" ".repeat(149) + "|;");
    }

    private static void itemsAreEnded() {
        due.says("ITEMS, each ended by ;");
        reads("tenement;", 1);
        reads("tenement;hours 1;", 2);
        fault("tenement|");
        fault("tenement |hours 1;");
        fault("tenement;hours 1 |hours 1;");
        fault("tenement;hours 1|");
        fault("tenement;hours 1 |1;");
        fault("tenement;|;");
        fault("tenement;hours 1;|;");
        fault("tenement;flight 0 4 |4;");
        fault("tenement;flight 0 4|");
        fault(ONE + "goer 0 4 0 |0;");
        fault(ONE + "goer 0 4 0|");
        fault(ONE + "load 0 4 |4;");
        fault(ONE + "load 0 4|");
        fault(ONE + "stride 0 1 |1;");
        fault(ONE + "stride 0 1|");
        fault(ONE + "stride 0 1|flight 0 1;");
    }

    private static void tenementComesOnceAndFirst() {
        due.says("tenement (once, first of all)");
        fault("tenement;|tenement;");
        fault("tenement;hours 1;|tenement;");
        fault("|hours 1;tenement;");
        fault("|flight 0 4;tenement;");
        fault("|goer 0 4 0;tenement;");
        fault("|load 0 4;tenement;");
        fault("|stride 0 1;tenement;");
        due.says("a word that is none, tenement again, anything ahead of it");
        fault("|;tenement;");
        fault("|0;tenement;");
        fault("|000 tenement;");
        fault("|-tenement;");
        fault("  |x tenement;");
        fault("tenement;|floor 0 4;");
        fault("tenement;hours 1;|x;");
    }

    private static void wordsAreOfLetters() {
        due.says("words of letters a .. z");
        fault("tenement;|loadz 0 4;");
        fault("tenement;|loada 0 4;");
        fault(ONE + "load|` 0 4;");
        fault(ONE + "load|{ 0 4;");
        fault("tenement;hours|Z 4;");
        fault("tenement;|zhours 4;");
        fault("tenement;|`hours 4;");
        fault("tenement;|hour s 4;");
        fault("tenement;|hour;");
        fault("tenement;|hourss 4;");
        fault("tenement;|Hours 4;");
        fault("|TENEMENT;");
        fault("|tenemen;");
        fault("|tenementt;");
        fault("|tenemenu;");
        fault("|uenement;");
        fault("tenement;|flightgoer;");
        String[] words = {"flight", "goer", "load", "stride", "hours", "x"};
        for (String word : words) {
            fault("tenement;hours |" + word + ";");
            fault("tenement;flight |" + word + ";");
            fault("tenement;flight 0 |" + word + ";");
            fault("tenement;flight 0 1 |" + word + ";");
        }
    }

    private static void figuresAreNumbers() {
        due.says("figures (1 or 2 are one number)");
        reads("tenement;hours 9;", 2);
        reads("tenement;hours 09;", 2);
        reads("tenement;hours 90;", 2);
        hour("tenement;hours 09;", 9);
        hour("tenement;hours 90;", 90);
        hour("tenement;hours 10;", 10);
        hour("tenement;hours 19;", 19);
        due.says("a run of three figures or more (at its first one)");
        fault("tenement;hours |100;");
        fault("tenement;hours |009;");
        fault("tenement;hours |0000000000000000000000000000009;");
        fault("tenement;hours |99999999999999999999999999999999;");
        fault("tenement;flight 0 |001;");
        fault("tenement;flight |000 1;");
        fault("tenement;|123;");
        fault("tenement|123;");
        fault("tenement;hours 1 |234;");
        hour("tenement;hours 99;hours 99;", 198);
    }

    private static void hour(String text, int want) {
        StairSteps x = new StairSteps();
        Due.read(x, text);
        due.is("7 the hour of [" + text + "]", x.count(3), want);
    }

    private static void blanksStandBetween() {
        due.says("blanks (32) between");
        reads("   tenement   ;   flight   0   4   ;   hours   5   ;   ", 3);
        reads("tenement ; hours 5 ; ", 2);
        fault("tenement;hours 1 |2;");
        fault("tenement;flight 1 2 |3;");
        due.is("7 blanks alone", Due.read(new StairSteps(), "     "), -15);
        reads("tenement;flight0 4;goer0 4 0;load0 1;stride0 1;hours1;", 6);
    }

    private static void bytesThatBeginNone() {
        due.says("a byte that begins none, too");
        for (char c = 0; c < 128; c++) {
            if (c == ' ' || c >= '0' && c <= '9' || c >= 'a' && c <= 'z') continue;
            if (c != ';') fault("tenement;|" + c);
            fault("|" + c + "tenement;");
            if (c != ';') fault("tenement|" + c);
            fault("tenement;hours |" + c + "5;");
            if (c != ';') fault("tenement;hours 5|" + c + ";");
            if (c != ';') fault("tenement;hours 5|" + c + "5;");
        }
    }

    private static void flightsAreAsTold() {
        due.says("flight KIND STEP");
        reads("tenement;flight 0 1;", 2);
        reads("tenement;flight 5 10;", 2);
        fault("tenement;flight |6 1;");
        fault("tenement;flight |99 1;");
        fault("tenement;flight 0 |0;");
        fault("tenement;flight 0 |11;");
        fault("tenement;flight 0 |99;");
        fault("tenement;flight |;");
        fault("tenement;flight 0 |;");
        due.says("a 4th flight");
        String three = "tenement;flight 0 1;flight 0 1;flight 0 1;";
        reads(three, 4);
        fault(three + "|flight");
        fault(three + "|flight 0 1;");
        fault(three + "|flight 9 99;");
    }

    private static void goersAreAsTold() {
        due.says("goer KIND LEGS f");
        String two = "tenement;flight 0 4;flight 1 5;";
        reads(two + "goer 0 1 0;", 4);
        reads(two + "goer 5 4 1;", 4);
        fault(two + "goer |6 1 0;");
        fault(two + "goer 0 |0 0;");
        fault(two + "goer 0 |5 0;");
        fault(two + "goer |;");
        fault(two + "goer 0 |;");
        fault(two + "goer 0 1 |;");
        due.says("also a FLIGHT, a GOER that is not there yet");
        fault("tenement;goer 0 1 |0;flight 0 4;");
        fault("tenement;flight 0 4;goer 0 1 |1;flight 0 4;");
        fault(two + "goer 0 1 |2;flight 0 4;");
        reads(two + "flight 0 4;goer 0 1 2;", 5);
        fault(two + "flight 0 4;goer 0 1 |3;");
        due.says("a 7th goer at its word");
        StringBuilder six = new StringBuilder("tenement;flight 0 4;");
        for (int i = 0; i < 6; i++) six.append("goer 0 4 0;");
        reads(six.toString(), 8);
        fault(six + "|goer");
        fault(six + "|goer 0 4 0;");
        fault(six + "|goer 9 9 9;");
    }

    private static void loadsAreAsTold() {
        due.says("load i x");
        reads(ONE + "load 0 0;", 4);
        reads(ONE + "load 0 9;load 0 9;", 5);
        fault(ONE + "load 0 |10;");
        fault(ONE + "load |1 1;");
        fault("tenement;flight 0 4;load |0 1;");
        fault(ONE + "load |1 1;goer 0 4 0;");
        reads(ONE + "goer 0 4 0;load 1 1;", 5);
        fault(ONE + "load |;");
        fault(ONE + "load 0 |;");
        StairSteps x = new StairSteps();
        Due.read(x, ONE + "load 0 9;load 0 3;");
        due.is("7 the load", x.of(0, 4), 3);
    }

    private static void stridesAreAsTold() {
        due.says("stride i k");
        reads(ONE + "stride 0 1;", 4);
        fault(ONE + "stride 0 |0;");
        fault(ONE + "stride |1 1;");
        fault("tenement;flight 0 4;stride |0 1;");
        fault(ONE + "stride |;");
        fault(ONE + "stride 0 |;");
        due.says("more STEPS than one STRIDES");
        reads(ONE + "stride 0 3;", 4);
        reads(ONE + "stride 0 4;", 4);
        fault(ONE + "stride 0 |5;");
        fault(ONE + "stride 0 |9;");
        fault("tenement;flight 0 4;goer 4 4 0;hours 17;stride 0 |5;");
        reads("tenement;flight 0 4;goer 4 4 0;hours 18;stride 0 5;", 5);
        fault("tenement;flight 0 4;goer 4 4 0;hours 18;stride 0 |6;");
        fault("tenement;flight 0 4;goer 4 4 0;hours 24;stride 0 |5;");
        reads("tenement;flight 0 4;goer 2 4 0;load 0 8;stride 0 2;", 5);
        fault("tenement;flight 0 4;goer 2 4 0;load 0 9;stride 0 |2;");
        due.says("a GOER who is OVER (stride)");
        String over = ONE + "stride 0 3;stride 0 4;stride 0 4;";
        reads(over, 6);
        fault(over + "stride |0 1;");
        fault(over + "stride |0 9;");
        fault(over + "stride |0");
        reads(over + "load 0 9;goer 0 1 0;stride 1 1;", 9);
        fallsInTheText();
    }

    private static void fallsInTheText() {
        StairSteps x = new StairSteps();
        due.is("7 two falls", Due.read(x, ONE + "stride 0 4;stride 0 3;stride 0 1;stride 0 2;"), 7);
        due.is("7 falls", x.count(4), 2);
        due.is("7 from the foot on", x.of(0, 3), 2);
        due.is("7 the hour stays", x.count(3), 0);
        due.is("7 at 8 one is not over", Due.read(x, ONE + "stride 0 3;stride 0 4;stride 0 3;stride 0 4;"), 7);
        due.is("7 11 at most", x.of(0, 3), 11);
    }

    private static void hoursAreAsTold() {
        due.says("hours n (1 .. 99)");
        hour("tenement;hours 1;", 1);
        hour("tenement;hours 99;", 99);
        fault("tenement;hours |0;");
        fault("tenement;hours |00;");
        fault("tenement;hours |100;");
        fault("tenement;hours |;");
    }

    private static void theTextEndsTooEarly() {
        due.says("the TEXT's length, if it ends too early (an empty one, too)");
        fault("|");
        fault(" |");
        fault("tenement|");
        fault("tenement  |");
        fault("tenement;hours|");
        fault("tenement;hours |");
        fault("tenement;hours 5|");
        fault("tenement;hours 5 |");
        fault("tenement;flight|");
        fault("tenement;flight 0|");
        fault("tenement;flight 0 |");
        due.is("7 cleared", clearedAndRead(), -10);
    }

    private static int clearedAndRead() {
        StairSteps x = Houses.lived();
        x.clear();
        return x.read();
    }

    /** Behind each ; the text is whole; elsewhere it ends too early, or with a word that is none yet. */
    private static void everyTextThatIsCutShort() {
        String text = "tenement;flight 3 8;goer 4 2 0;load 0 7;stride 0 1;hours 31;";
        for (int cut = 0; cut <= text.length(); cut++) {
            String rest = text.substring(0, cut);
            String last = rest.substring(Math.max(rest.lastIndexOf(';'), rest.lastIndexOf(' ')) + 1);
            boolean whole = cut > 0 && rest.endsWith(";");
            boolean known = last.isEmpty() || last.matches("\\d+|tenement|flight|goer|load|stride|hours");
            int items = (int) rest.chars().filter(c -> c == ';').count();
            reads(rest, whole ? items : known ? -10 - cut : -10 - (cut - last.length()));
        }
    }

    /** What stood behind the end, before the text was cleared, does not count. */
    private static void bytesOfAFormerText() {
        due.says("`int clear()`: THE TEXT is empty: how many it had.");
        String text = "tenement;flight 3 8;goer 4 2 0;load 0 7;stride 0 1;hours 31;";
        char[] former = {' ', 't', 'z', '5', ';', '-'};
        for (int cut = 0; cut <= text.length(); cut++) {
            String rest = text.substring(0, cut);
            int want = Due.read(new StairSteps(), rest);
            for (char c : former) behindOthers(rest, String.valueOf(c).repeat(150), want);
            behindOthers(rest, text, want);
        }
    }

    private static void behindOthers(String text, String former, int want) {
        StairSteps x = new StairSteps();
        Due.write(x, former);
        due.is("7 [" + text + "] behind [" + former + "]", Due.read(x, text), want);
    }

    private static void aFaultLeavesAll() {
        due.says("`int read()`: THE TENEMENT is read: how many ITEMS. -10 less the FAULT: all stays.");
        String[] faults = {"", "tenement;flight 5 5;goer 1 1 0;hours 77;x", "tenement;hours 99;hours", "tenement", "9"};
        for (String text : faults) {
            Due.Made made = () -> {
                StairSteps x = Houses.lived();
                Due.write(x, text);
                return x;
            };
            due.onlyLooks("7 [" + text + "]", made, StairSteps::read, made.make().read());
            due.holds("7 a fault [" + text + "]", made.make().read() <= -10);
        }
    }

    private static void whatIsReadTakesThePlace() {
        due.says("A TENEMENT that is read takes the place of all but IMAGES, THE TEXT, THE FRACTION, STATUS (SEEN ones, NOTES, MARKS none; nothing to undo).");
        StairSteps x = Houses.full(), told = new StairSteps();
        due.is("7 items", x.read(), 5);
        Due.write(told, Houses.TEXT);
        told.read();
        for (int what = 0; what <= 9; what++) due.is("7 count " + what, x.count(what), told.count(what));
        due.is("7 seen", x.count(5), 0);
        due.is("7 notes", x.count(6), 0);
        due.is("7 marks", x.count(7), 0);
        due.is("7 to undo", x.count(8), 0);
        for (int what = 0; what <= 5; what++) due.is("7 of " + what, x.of(0, what), told.of(0, what));
        for (int what = 0; what <= 2; what++) due.is("7 about " + what, x.about(0, what), told.about(0, what));
        due.is("7 whose", x.whose(0), 2046);
        due.is("7 is", x.is(0), 63);
        due.is("7 kinds", x.kinds(0), 63);
        due.is("7 the fraction", x.part(0) * 100 + x.part(1), 710);
        due.is("7 status", x.status(0) * 100 + x.status(1) * 10 + x.status(2), 231);
        due.is("7 nothing to undo", x.undo(), StairSteps.NO);
        due.is("7 read again", x.read(), 5);
        imagesStay(x);
    }

    private static void imagesStay(StairSteps x) {
        StairSteps other = Houses.full();
        for (int i = 0; i < 2; i++) {
            due.is("7 image " + i, x.from(i), other.from(i));
            due.is("7 image " + i + ", all of it", x.digest(), other.digest());
            while (other.count(8) > 0) {
                due.is("7 image " + i + ", undone", x.undo(), other.undo());
                due.is("7 image " + i + ", all of it then", x.digest(), other.digest());
            }
        }
    }
}
