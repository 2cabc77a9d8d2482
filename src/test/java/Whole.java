import java.util.ArrayList;
import java.util.List;

/** All that can be seen of an object from outside. To see it uses the object up: it is undone and read. */
final class Whole {
    private static final int MOST_CALLS = 340;

    private final StairSteps x;
    private final List<String> told = new ArrayList<>();
    private final int[] status = new int[3];

    Whole(StairSteps x) {
        this.x = x;
        for (int what = 0; what < 3; what++) status[what] = x.status(what);
        counts("now");
        flights();
        goers();
        pairs();
        tell("stuck", x.stuck());
        tell("years", x.years(7, 60));
        undone("now");
        for (int i = 0; i < 2; i++) {
            tell("from " + i, x.from(i));
            counts("image " + i);
            undone("image " + i);
        }
        tell("read", x.read());
        counts("read");
        if (told.size() > MOST_CALLS) throw new IllegalStateException("an object has 512 calls: " + told.size());
    }

    int status(int what) {
        return status[what];
    }

    int unlike(Whole other) {
        return told.equals(other.told) ? 0 : 1;
    }

    String firstUnlike(Whole other) {
        for (int n = 0; n < told.size(); n++) {
            String there = n < other.told.size() ? other.told.get(n) : "nothing";
            if (!told.get(n).equals(there)) return told.get(n) + " (before: " + there + ")";
        }
        return told.size() == other.told.size() ? "nothing" : "how much there is to see";
    }

    private void tell(String what, long answer) {
        told.add(what + ": " + answer);
    }

    private void counts(String when) {
        for (int what = 0; what <= 9; what++) tell("count " + what + " " + when, x.count(what));
        for (int what = 0; what <= 1; what++) tell("part " + what + " " + when, x.part(what));
        tell("digest " + when, x.digest());
    }

    private void flights() {
        for (int f = 0; f < x.count(1); f++) {
            for (int what = 0; what <= 2; what++) tell("about " + f + " " + what, x.about(f, what));
            for (int what = 0; what <= 1; what++) tell("site " + f + " " + what, x.site(f, what));
            tell("whose " + f, x.whose(f));
            tell("tell " + f, x.tell(f));
            tell("is " + f, x.is(f));
            tell("look " + f, x.look(f));
        }
    }

    private void goers() {
        for (int i = 0; i < x.count(0); i++) {
            for (int what = 0; what <= 5; what++) tell("of " + i + " " + what, x.of(i, what));
            for (int what = 0; what <= 1; what++) tell("soon " + i + " " + what, x.soon(i, what));
            for (int k = -1; k <= 2; k++) tell("up " + i + " " + k, x.up(i, k));
            tell("kinds " + i, x.kinds(i));
            tell("ask " + i, x.ask(i));
        }
    }

    private void pairs() {
        for (int i = 0; i < x.count(0); i++) {
            for (int j = 0; j < i; j++) {
                if (x.of(i, 2) == x.of(j, 2)) tell("meets " + i + " " + j, x.meets(i, j));
            }
        }
    }

    private void undone(String when) {
        for (int n = x.count(8); n >= 0; n--) {
            tell("undo " + when, x.undo());
            tell("digest " + n + " " + when, x.digest());
        }
    }
}
