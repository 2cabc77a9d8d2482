import java.io.IOException;
import java.nio.file.Files;
import java.nio.file.Path;

/** What a test counts: every answer that is not the one that is due is printed. */
final class Due {
    static final int BAD = 0, NO = 1, FULL = 2;

    private static String document;

    private final String name;
    private String sentence = "";
    private int looked = 0, wrong = 0;

    interface Made {
        StairSteps make();
    }

    interface Call {
        long on(StairSteps x);
    }

    interface CallBy {
        long on(StairSteps x, int n);
    }

    Due(String name) {
        this.name = name;
    }

    /** What is looked at from here on is due by these words; they must stand in the document. */
    void says(String words) {
        sentence = words;
        holds("these words stand in DOC.md", document().contains(words));
    }

    static String document() {
        if (document != null) return document;
        try {
            Path project = Path.of(System.getProperty("project", "."));
            document = Files.readString(project.resolve("../shared/DOC.md"));
        } catch (IOException e) {
            throw new IllegalStateException("DOC.md can not be read", e);
        }
        return document;
    }

    void is(String what, long got, long want) {
        looked++;
        if (got == want) return;
        wrong++;
        String by = sentence.isEmpty() ? "" : " [" + sentence + "]";
        System.out.println(name + ": " + what + " answered " + got + ", due is " + want + by);
    }

    void holds(String what, boolean so) {
        is(what, so ? 1 : 0, 1);
    }

    /** The call is refused: it adds one to that part of STATUS, and changes nothing else that can be seen. */
    void refused(String what, Made made, Call call, long answer, int reason) {
        StairSteps x = made.make();
        is(what, call.on(x), answer);
        Whole after = new Whole(x), before = new Whole(made.make());
        is(what + ", refused, changes " + after.firstUnlike(before), after.unlike(before), 0);
        for (int r = BAD; r <= FULL; r++) {
            is(what + ", status " + r, after.status(r), before.status(r) + (r == reason ? 1 : 0));
        }
    }

    void bad(String what, Made made, Call call) {
        refused(what, made, call, StairSteps.BAD, BAD);
    }

    void no(String what, Made made, Call call) {
        refused(what, made, call, StairSteps.NO, NO);
    }

    void full(String what, Made made, Call call) {
        refused(what, made, call, StairSteps.FULL, FULL);
    }

    /** The call only looks: it changes nothing that can be seen, STATUS neither. */
    void onlyLooks(String what, Made made, Call call, long answer) {
        StairSteps x = made.make();
        is(what, call.on(x), answer);
        Whole after = new Whole(x), before = new Whole(made.make());
        is(what + ", a look, changes " + after.firstUnlike(before), after.unlike(before), 0);
        for (int r = BAD; r <= FULL; r++) is(what + ", status " + r, after.status(r), before.status(r));
    }

    /** The call answers so, and is not refused. */
    void answers(String what, Made made, Call call, long answer) {
        StairSteps x = made.make();
        int refusals = x.status(0) + x.status(1) + x.status(2);
        is(what, call.on(x), answer);
        is(what + ", refusals", x.status(0) + x.status(1) + x.status(2), refusals);
    }

    void end() {
        System.out.println(name + ": " + looked + " looked at, " + wrong + " wrong");
        if (wrong != 0 || looked == 0) System.exit(1);
    }

    /** Puts a whole text in place of the one that is there. */
    static void write(StairSteps x, String text) {
        x.clear();
        for (int n = 0; n < text.length(); n++) x.type(text.charAt(n));
    }

    static int read(StairSteps x, String text) {
        write(x, text);
        return x.read();
    }

    /** A tenement of one flight with one goer on it. */
    static StairSteps with(int ownerKind, int step, int goerKind, int legs) {
        StairSteps x = new StairSteps();
        x.flight(ownerKind, step);
        x.goer(goerKind, legs, 0);
        return x;
    }

    static StairSteps atHour(StairSteps x, int t) {
        if (t > 0) x.hours(t);
        return x;
    }
}
