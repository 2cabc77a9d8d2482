/** What a test counts: every answer that is not the one that is due is printed. */
final class Due {
    private final String name;
    private int looked = 0, wrong = 0;

    Due(String name) {
        this.name = name;
    }

    void is(String what, long got, long want) {
        looked++;
        if (got == want) return;
        wrong++;
        System.out.println(name + ": " + what + " answered " + got + ", due is " + want);
    }

    void holds(String what, boolean so) {
        is(what, so ? 1 : 0, 1);
    }

    void end() {
        System.out.println(name + ": " + looked + " looked at, " + wrong + " wrong");
        if (wrong != 0 || looked == 0) System.exit(1);
    }

    /** Puts a whole text in place of the one that is there. */
    static void write(StairSteps x, String text) {
        x.clear();
        for (int n = 0; n < text.length(); n++) x.type(text.charAt(n));
    }

    static int read(StairSteps x, String text) {
        write(x, text);
        return x.read();
    }

    /** A tenement of one flight with one goer on it. */
    static StairSteps with(int ownerKind, int step, int goerKind, int legs) {
        StairSteps x = new StairSteps();
        x.flight(ownerKind, step);
        x.goer(goerKind, legs, 0);
        return x;
    }

    static StairSteps atHour(StairSteps x, int t) {
        if (t > 0) x.hours(t);
        return x;
    }
}
