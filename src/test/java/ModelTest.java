import java.util.Random;

/** Long runs of calls on an object and on the model, side by side; the seeds are fixed, so every run is the same. */
public final class ModelTest {
    private static final int RUNS = 6000, CALLS = 512, MOST_TEXT = 200;
    private static final String[] WORDS = {"flight", "goer", "load", "stride", "hours"};
    private static final Due due = new Due("ModelTest");

    private final Random random;
    private final int run;
    private final StairSteps x = new StairSteps();
    private final Model m = new Model();
    private int calls = 0;

    private ModelTest(int run) {
        this.run = run;
        random = new Random(run);
    }

    public static void main(String[] args) {
        for (int run = 0; run < RUNS; run++) new ModelTest(run).play();
        due.end();
    }

    private void play() {
        while (calls + 2 <= CALLS) {
            if (random.nextInt(40) == 0) text();
            else if (calls < 24 || random.nextInt(40) == 0) same(random.nextInt(3), this::settle);
            else same(random.nextInt(34), this::call);
            due.is("run " + run + " digest behind call " + calls, x.digest(), m.digest());
            calls++;
        }
    }

    private interface Pair {
        long[] answers(int which);
    }

    private void same(int which, Pair pair) {
        long[] answers = pair.answers(which);
        calls++;
        due.is("run " + run + " call " + calls + " of sort " + which, answers[0], answers[1]);
    }

    private static long[] both(long a, long b) {
        return new long[] {a, b};
    }

    /** Mostly a number as told, at times one beside it. */
    private int near(int least, int most) {
        switch (random.nextInt(40)) {
            case 0: return least - 1;
            case 1: return most + 1;
            case 2: return random.nextInt(10) == 0 ? random.nextInt() : most;
            default: return least + random.nextInt(most - least + 1);
        }
    }

    private int goer() {
        return near(0, Math.max(0, m.count(0) - 1));
    }

    private int flight() {
        return near(0, Math.max(0, m.count(1) - 1));
    }

    private long[] settle(int which) {
        int kind = near(0, 5);
        if (which == 0) {
            int s = near(1, 10);
            return both(x.flight(kind, s), m.flight(kind, s));
        }
        if (which == 1 || random.nextInt(8) != 0) {
            int legs = near(1, 4), f = flight();
            return both(x.goer(kind, legs, f), m.goer(kind, legs, f));
        }
        return both(x.tenement(), m.tenement());
    }

    private long[] call(int which) {
        int i = goer(), j = goer(), f = flight(), t = near(0, 23);
        int a, b, c;
        switch (which) {
            case 0: case 1: case 2: a = near(1, 4); return both(x.strides(i, a), m.strides(i, a));
            case 3: return both(x.begins(i), m.begins(i));
            case 4: a = near(0, 9); return both(x.loads(i, a), m.loads(i, a));
            case 5: a = near(1, 10); return both(x.sells(f, a), m.sells(f, a));
            case 6: case 7: a = near(1, random.nextBoolean() ? 99 : 5); return both(x.hours(a), m.hours(a));
            case 8: case 9: return both(x.undo(), m.undo());
            case 10: a = near(0, 5); return both(x.of(i, a), m.of(i, a));
            case 11: a = near(0, 2); return both(x.about(f, a), m.about(f, a));
            case 12: case 13: a = near(-1, 8); return both(x.up(i, a), m.up(i, a));
            case 14: return both(x.stuck(), m.stuck());
            case 15: a = near(0, 1); return both(x.soon(i, a), m.soon(i, a));
            case 16: a = near(0, 1); return both(x.site(f, a), m.site(f, a));
            case 17: return both(x.meets(i, j), m.meets(i, j));
            case 18: a = near(1, 10); b = near(0, 1); return both(x.seen(f, a, t, b), m.seen(f, a, t, b));
            case 19: return both(x.whose(f), m.whose(f));
            case 20: return both(x.tell(f), m.tell(f));
            case 21: a = near(0, random.nextInt(5) == 0 ? 9 : 3); return both(x.note(f, t, a), m.note(f, t, a));
            case 22: a = near(1, 4); b = near(0, 9); c = near(0, random.nextInt(5) == 0 ? 9 : 4);
                return both(x.mark(i, a, b, t, c), m.mark(i, a, b, t, c));
            case 23: a = near(0, 2); return both(x.forget(a), m.forget(a));
            case 24: return both(x.is(f), m.is(f));
            case 25: return both(x.look(f), m.look(f));
            case 26: return both(x.kinds(i), m.kinds(i));
            case 27: return both(x.ask(i), m.ask(i));
            case 28: return both(x.gap(i, j), m.gap(i, j));
            case 29: case 30: a = near(0, 6); b = near(0, 10); return both(x.dark(i, a, b), m.dark(i, a, b));
            case 31: a = near(0, 999999); b = near(0, 60); return both(x.years(a, b), m.years(a, b));
            default: return answersOf(which);
        }
    }

    private long[] answersOf(int which) {
        int a = near(0, 1), b = near(0, 2), c = near(0, 9);
        switch (random.nextInt(which == 32 ? 3 : 5)) {
            case 0: return both(x.part(a), m.part(a));
            case 1: return both(x.status(b), m.status(b));
            case 2: return both(x.count(c), m.count(c));
            case 3: return both(x.image(a), m.image(a));
            default: return both(x.from(a), m.from(a));
        }
    }

    /** Types a text that is mostly right, and reads it. */
    private void text() {
        if (calls + MOST_TEXT > CALLS) return;
        due.is("run " + run + " clear", x.clear(), m.clear());
        StringBuilder text = new StringBuilder(random.nextInt(20) == 0 ? "" : "tenement;");
        int items = random.nextInt(12);
        for (int n = 0; n < items; n++) text.append(item(n));
        if (random.nextInt(3) == 0) spoil(text);
        if (random.nextInt(4) == 0) text.setLength(random.nextInt(text.length() + 1));
        for (int n = 0; n < text.length(); n++) {
            due.is("run " + run + " type", x.type(text.charAt(n)), m.type(text.charAt(n)));
        }
        calls += text.length() + 2;
        due.is("run " + run + " read [" + text + "]", x.read(), m.read());
    }

    private String item(int n) {
        String word = n == 0 ? "flight" : n == 1 ? "goer" : WORDS[random.nextInt(WORDS.length)];
        switch (word) {
            case "flight": return word + blank() + random.nextInt(6) + " " + (1 + random.nextInt(10)) + ";";
            case "goer": return word + blank() + random.nextInt(6) + " " + (1 + random.nextInt(4)) + " 0;" + blank();
            case "hours": return word + blank() + (1 + random.nextInt(99)) + ";";
            default: return word + blank() + "0 " + (1 + random.nextInt(2)) + ";";
        }
    }

    private String blank() {
        return random.nextInt(12) == 0 ? "" : random.nextInt(12) == 0 ? "  " : " ";
    }

    private void spoil(StringBuilder text) {
        if (text.length() == 0) return;
        String bytes = "0123456789;;  agtx-\n\0A";
        text.setCharAt(random.nextInt(text.length()), bytes.charAt(random.nextInt(bytes.length())));
    }
}
