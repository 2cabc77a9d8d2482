/** Tenements to begin a test with; each is made anew, and always alike. */
final class Houses {
    static final String TEXT = "tenement;flight 4 3;goer 4 2 0;load 0 7;hours 31;";

    private Houses() {
    }

    static StairSteps empty() {
        return new StairSteps();
    }

    /** One flight, and one goer of legs 4 on it. */
    static StairSteps one() {
        return Due.with(0, 5, 0, 4);
    }

    /** Two flights, five goers; some of all that there is, and room for one more of each. */
    static StairSteps lived() {
        StairSteps x = new StairSteps();
        x.flight(3, 6);
        x.flight(2, 4);
        int[] flightOf = {0, 0, 1, 1, 0};
        for (int i = 0; i < 5; i++) x.goer(new int[] {0, 2, 4, 5, 3}[i], new int[] {4, 4, 3, 4, 2}[i], flightOf[i]);
        refusedOnes(x);
        x.dark(2, 2, 3);
        x.loads(1, 4);
        x.image(0);
        x.strides(0, 3);
        x.strides(1, 3);
        x.strides(0, 3);
        x.strides(2, 2);
        x.sells(1, 7);
        x.hours(12);
        knownOnes(x);
        Due.write(x, TEXT);
        return x;
    }

    /** As lived, but nothing more may come; all eight may be undone, both images are kept. */
    static StairSteps full() {
        StairSteps x = lived();
        x.flight(5, 1);
        x.goer(1, 3, 2);
        x.seen(2, 10, 23, 0);
        x.note(2, 23, 1);
        x.mark(5, 3, 9, 23, 2);
        for (int n = 0; n < 2; n++) x.hours(5);
        x.strides(0, 2);
        x.strides(4, 1);
        x.loads(3, 9);
        x.loads(3, 2);
        x.sells(2, 2);
        x.image(1);
        x.begins(1);
        return x;
    }

    /** THE TEXT has 150 bytes, and can be read. */
    static StairSteps fullText() {
        StairSteps x = one();
        x.hours(3);
        Due.write(x, longest());
        return x;
    }

    static String longest() {
        StringBuilder text = new StringBuilder(TEXT);
        while (text.length() + 8 <= 150) text.append("hours 1;");
        while (text.length() < 150) text.append(' ');
        return text.toString();
    }

    /** The goer is over. */
    static StairSteps over() {
        StairSteps x = one();
        x.strides(0, 4);
        x.strides(0, 3);
        x.strides(0, 4);
        return x;
    }

    private static void refusedOnes(StairSteps x) {
        for (int n = 0; n < 2; n++) x.hours(0);
        for (int n = 0; n < 3; n++) x.loads(0, 0);
        for (int n = 0; n < 6; n++) x.seen(0, 1, 1, 1);
        x.forget(0);
    }

    private static void knownOnes(StairSteps x) {
        x.seen(0, 6, 10, 1);
        x.seen(1, 3, 4, 0);
        x.seen(0, 4, 20, 0);
        x.seen(1, 10, 18, 0);
        for (int n = 0; n < 5; n++) {
            x.note(n % 2, 6 * n % 24, n < 3 ? 1 : 2);
            x.mark(n, n % 4 + 1, 2 * n, 5 * n, n % 3 + 1);
        }
    }
}
