import java.util.Map;
import java.util.TreeMap;

/** What each call changes, and that it changes nothing else of the numbers that there are. */
public final class ChangesTest {
    private static final Due due = new Due("ChangesTest");

    public static void main(String[] args) {
        whatComes();
        theText();
        strides();
        loadsSalesHours();
        whatIsUndone();
        whatIsKnown();
        theFraction();
        images();
        due.end();
    }

    private static Map<String, Long> numbers(StairSteps x) {
        Map<String, Long> numbers = new TreeMap<>();
        for (int what = 0; what <= 9; what++) numbers.put("count " + what, (long) x.count(what));
        for (int what = 0; what <= 1; what++) numbers.put("part " + what, x.part(what));
        for (int what = 0; what <= 2; what++) numbers.put("status " + what, (long) x.status(what));
        for (int f = 0; f < x.count(1); f++) {
            for (int what = 0; what <= 1; what++) numbers.put("about " + f + " " + what, (long) x.about(f, what));
        }
        for (int i = 0; i < x.count(0); i++) {
            for (int what = 0; what <= 4; what++) numbers.put("of " + i + " " + what, (long) x.of(i, what));
        }
        return numbers;
    }

    /** Changes are told as name and value by turns: they are so then, and all the others are as they were. */
    private static void changes(String what, Due.Made made, Due.Call call, Object... told) {
        StairSteps x = made.make();
        Map<String, Long> want = numbers(x);
        for (int n = 0; n < told.length; n += 2) want.put((String) told[n], (long) (int) (Integer) told[n + 1]);
        call.on(x);
        Map<String, Long> got = numbers(x);
        due.is(what + ", how many numbers", got.size(), want.size());
        for (String name : want.keySet()) due.is(what + ", " + name, got.getOrDefault(name, -99L), want.get(name));
    }

    private static void whatComes() {
        due.says("`int flight(int kind, int s)`: A FLIGHT: its number.");
        changes("3", Houses::lived, x -> x.flight(5, 10), "count 1", 3, "about 2 0", 5, "about 2 1", 10, "count 8", 0);
        changes("3 the first", Houses::empty, x -> x.flight(0, 1), "count 1", 1, "about 0 0", 0, "about 0 1", 1);
        due.says("`int goer(int kind, int legs, int f)`: A GOER: the number.");
        changes("4", Houses::lived, x -> x.goer(5, 4, 1), "count 0", 6, "of 5 0", 5, "of 5 1", 4, "of 5 2", 1,
            "of 5 3", 0, "of 5 4", 0, "count 8", 0);
        changes("4 a second", Houses::one, x -> x.goer(0, 1, 0), "count 0", 2, "of 1 0", 0, "of 1 1", 1, "of 1 2", 0,
            "of 1 3", 0, "of 1 4", 0);
    }

    private static void theText() {
        int length = Houses.TEXT.length();
        due.says("comes behind THE TEXT: how many it has");
        changes("5", Houses::lived, x -> x.type(0), "count 9", length + 1);
        due.says("THE TEXT is empty: how many it had.");
        changes("6", Houses::lived, StairSteps::clear, "count 9", 0);
        changes("6 the empty one", Houses::empty, StairSteps::clear);
        due.onlyLooks("5 and 6, the same text again", Houses::full, ChangesTest::typedAgain, length);
    }

    private static long typedAgain(StairSteps x) {
        Due.write(x, Houses.TEXT);
        return x.count(9);
    }

    private static void strides() {
        due.says("it is a FALL: the GOER is at STEP 0, FALLS are one more; the HOUR stays");
        changes("8 a stride", Houses::lived, x -> x.strides(0, 4), "of 0 3", 4, "count 8", 8);
        changes("8 a fall", Houses::lived, x -> x.strides(1, 3), "of 1 3", 0, "count 4", 2, "count 8", 8);
        changes("8 over", ChangesTest::below, x -> x.strides(0, 4), "of 0 3", 11, "count 2", 1, "count 8", 3);
        changes("8 with eight to undo", Houses::full, x -> x.strides(2, 1), "of 2 3", 3);
        due.says("One begins anew: the STEP where one was.");
        changes("9", Houses::lived, x -> x.begins(2), "of 2 3", 0, "count 8", 8);
        changes("9 from the top", Houses::over, x -> x.begins(0), "of 0 3", 0, "count 2", 0, "count 8", 4);
    }

    private static StairSteps below() {
        StairSteps x = Houses.one();
        x.strides(0, 4);
        x.strides(0, 3);
        return x;
    }

    private static void loadsSalesHours() {
        due.says("`int loads(int i, int x)`: LOAD: what it was.");
        changes("10", Houses::lived, x -> x.loads(4, 9), "of 4 4", 9, "count 8", 8);
        due.says("A STEP is sold: the OWNER's is s (1 .. 10) then: which it was.");
        changes("11", Houses::lived, x -> x.sells(0, 3), "about 0 1", 3, "count 8", 8);
        changes("11 under one's feet", Houses::lived, x -> x.sells(1, 2), "about 1 1", 2, "count 8", 8);
        due.says("n HOURS go by (1 .. 99; together one that may be undone; 9999 stays): the HOUR.");
        changes("12", Houses::lived, x -> x.hours(99), "count 3", 111, "count 8", 8);
        changes("12 with eight to undo", Houses::full, x -> x.hours(1), "count 3", 23);
    }

    private static void whatIsUndone() {
        due.says("`int undo()`: UNDO: the HOUR then.");
        changes("13 hours", Houses::lived, StairSteps::undo, "count 3", 0, "count 8", 6);
        changes("13 beginning anew", Houses::full, StairSteps::undo, "of 1 3", 3, "count 8", 7);
        changes("13 a fall", ChangesTest::fallen, StairSteps::undo, "of 0 3", 4, "count 4", 0, "count 8", 1);
        changes("13 one was over", Houses::over, StairSteps::undo, "of 0 3", 7, "count 2", 0, "count 8", 2);
    }

    private static StairSteps fallen() {
        StairSteps x = Houses.one();
        x.strides(0, 4);
        x.strides(0, 1);
        return x;
    }

    private static void whatIsKnown() {
        due.says("SEEN: how many there are.");
        changes("21", Houses::lived, x -> x.seen(0, 1, 1, 1), "count 5", 5);
        due.says("A NOTE: how many there are.");
        changes("24", Houses::lived, x -> x.note(0, 1, 1), "count 6", 6);
        due.says("A MARK: how many there are.");
        changes("25", Houses::lived, x -> x.mark(0, 1, 1, 1, 1), "count 7", 6);
        due.says("No SEEN ones (0), NOTES (1), MARKS (2): how many there were.");
        for (int what = 0; what <= 2; what++) {
            int sort = what;
            changes("26 " + sort, Houses::lived, x -> x.forget(sort), "count " + (5 + sort), 0);
        }
    }

    private static void theFraction() {
        due.says("DARK is THE FRACTION: 1.");
        changes("32", Houses::lived, x -> x.dark(1, 6, 10), "part 0", 0, "part 1", 1);
        changes("32 for sure", Houses::lived, x -> x.dark(0, 0, 10), "part 0", 1, "part 1", 1);
        due.onlyLooks("32 again", ChangesTest::dark, x -> x.dark(0, 2, 5), 1);
        due.says("YEARS by a SEED");
        changes("33", Houses::full, x -> x.years(0, 60));
    }

    private static StairSteps dark() {
        StairSteps x = Houses.full();
        x.dark(0, 2, 5);
        return x;
    }

    private static void images() {
        due.says("An IMAGE is kept: 1.");
        changes("35", Houses::full, x -> x.image(0));
        due.onlyLooks("35 again", ChangesTest::kept, x -> x.image(1), 1);
        due.says("It goes on from an IMAGE: 1.");
        changes("36 the one that is so", ChangesTest::kept, x -> x.from(1));
        due.onlyLooks("36 the one that is so", ChangesTest::kept, x -> x.from(1), 1);
        changes("36", Houses::lived, x -> x.from(0), "of 1 3", 0, "of 2 3", 0, "about 1 1", 4, "count 3", 0,
            "count 4", 0, "count 5", 0, "count 6", 0, "count 7", 0, "count 8", 1);
    }

    private static StairSteps kept() {
        StairSteps x = Houses.full();
        x.image(1);
        return x;
    }
}
