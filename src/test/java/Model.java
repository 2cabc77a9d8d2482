import java.math.BigInteger;
import java.util.ArrayDeque;
import java.util.ArrayList;
import java.util.Deque;
import java.util.List;
import java.util.TreeMap;
import java.util.regex.Matcher;
import java.util.regex.Pattern;

/** The document told again, plainly and slowly and in other ways than the class does it: rows are tried out one by one. */
final class Model {
    static class Owner {
        int bars(int t) { return 1; }
    }

    static class Clerk extends Owner {
        @Override int bars(int t) { return super.bars(t) + (t >= 18 ? 1 : 0); }
    }

    static final class Poet extends Clerk {
        @Override int bars(int t) { return super.bars(t) + (t % 6 == 0 ? 1 : 0); }
    }

    static class Lady extends Owner {
        @Override int bars(int t) { return super.bars(t) + (t >= 9 && t <= 16 ? 2 : 0); }
    }

    static final class Heir extends Lady {
        @Override int bars(int t) { return Math.max(super.bars(t) - 1, 1); }
    }

    static final class Nobody extends Owner {
        @Override int bars(int t) { return t < 5 ? 0 : super.bars(t); }
    }

    static class Goer {
        int far(int l, int x, int t) { return l; }
    }

    static class Child extends Goer {
        @Override int far(int l, int x, int t) { return super.far(l, x, t) - super.far(l, x, t) / 2; }
    }

    static class Porter extends Goer {
        @Override int far(int l, int x, int t) { return Math.max(super.far(l, x, t) - x / 3, 1); }
    }

    static final class Coffin extends Porter {
        @Override int far(int l, int x, int t) { return Math.min(super.far(l, x, t), 2); }
    }

    static final class Lover extends Goer {
        @Override int far(int l, int x, int t) { return super.far(l, x, t) + (t >= 18 ? 1 : 0); }
    }

    static final class Old extends Child {
        @Override int far(int l, int x, int t) { return t < 8 ? 1 : super.far(l, x, t); }
    }

    static final Owner[] OWNERS = {new Owner(), new Clerk(), new Poet(), new Lady(), new Heir(), new Nobody()};
    static final Goer[] GOERS = {new Goer(), new Child(), new Porter(), new Coffin(), new Lover(), new Old()};

    /** All that an image keeps. */
    static final class State {
        List<int[]> flights = new ArrayList<>(), goers = new ArrayList<>();
        List<int[]> seen = new ArrayList<>(), notes = new ArrayList<>(), marks = new ArrayList<>();
        Deque<State> past = new ArrayDeque<>();
        int hour, falls;

        State copy(boolean withPast) {
            State c = new State();
            for (int[] a : flights) c.flights.add(a.clone());
            for (int[] a : goers) c.goers.add(a.clone());
            c.seen.addAll(seen);
            c.notes.addAll(notes);
            c.marks.addAll(marks);
            if (withPast) c.past.addAll(past);
            c.hour = hour;
            c.falls = falls;
            return c;
        }

        boolean barred(int f, int p) {
            return barredBy(flights.get(f)[0], flights.get(f)[1], p, hour % 24);
        }

        int far(int i) {
            int[] g = goers.get(i);
            return GOERS[g[0]].far(g[1], g[4], hour % 24);
        }

        int stride(int i, int k) {
            int[] g = goers.get(i);
            g[3] = Math.min(g[3] + k, 11);
            if (barred(g[2], g[3])) {
                g[3] = 0;
                falls++;
            }
            return g[3];
        }
    }

    State now = new State();
    final State[] images = new State[2];
    final StringBuilder text = new StringBuilder();
    BigInteger above = BigInteger.ZERO, below = BigInteger.ONE;
    final int[] refused = new int[3];

    static boolean barredBy(int kind, int own, int p, int t) {
        return p >= own && p < own + OWNERS[kind].bars(t) && p >= 1 && p <= 10;
    }

    private int bad() { refused[0]++; return -2; }
    private int no() { refused[1]++; return -3; }
    private int full() { refused[2]++; return -4; }

    private static boolean in(int v, int least, int most) { return v >= least && v <= most; }
    private boolean fl(int f) { return in(f, 0, now.flights.size() - 1); }
    private boolean go(int i) { return in(i, 0, now.goers.size() - 1); }

    private void keep() {
        now.past.addLast(now.copy(false));
        if (now.past.size() > 8) now.past.removeFirst();
    }

    int tenement() {
        int n = now.goers.size();
        now = new State();
        return n;
    }

    int flight(int kind, int s) {
        if (!in(kind, 0, 5) || !in(s, 1, 10)) return bad();
        if (now.flights.size() == 3) return full();
        now.flights.add(new int[] {kind, s});
        now.past.clear();
        return now.flights.size() - 1;
    }

    int goer(int kind, int legs, int f) {
        if (!in(kind, 0, 5) || !in(legs, 1, 4) || !fl(f)) return bad();
        if (now.goers.size() == 6) return full();
        now.goers.add(new int[] {kind, legs, f, 0, 0});
        now.past.clear();
        return now.goers.size() - 1;
    }

    int type(int c) {
        if (!in(c, 0, 127)) return bad();
        if (text.length() == 150) return full();
        text.append((char) c);
        return text.length();
    }

    int clear() {
        int n = text.length();
        text.setLength(0);
        return n;
    }

    int read() {
        List<String> tokens = new ArrayList<>();
        List<Integer> places = new ArrayList<>();
        Matcher m = Pattern.compile("[a-z]+|[0-9]+|[^ ]", Pattern.DOTALL).matcher(text);
        while (m.find()) {
            tokens.add(m.group());
            places.add(m.start());
        }
        State s = new State();
        int at = 0, items = 0;
        while (at < tokens.size() || items == 0) {
            int taken = item(s, tokens.subList(at, tokens.size()), items == 0);
            if (taken <= 0) {
                int wrong = at - taken;
                return -10 - (wrong < tokens.size() ? places.get(wrong) : text.length());
            }
            at += taken;
            items++;
        }
        now = s;
        return items;
    }

    /** How many tokens the item takes; if one can not stand there: 0 less its number. */
    private static int item(State s, List<String> tokens, boolean first) {
        String word = tokens.isEmpty() ? "" : tokens.get(0);
        if (word.equals("tenement") != first) return 0;
        int[] v = new int[3];
        int numbers;
        switch (word) {
            case "tenement": numbers = 0; break;
            case "flight": numbers = s.flights.size() < 3 ? 2 : -1; break;
            case "goer": numbers = s.goers.size() < 6 ? 3 : -1; break;
            case "load": case "stride": numbers = 2; break;
            case "hours": numbers = 1; break;
            default: numbers = -1;
        }
        if (numbers < 0) return 0;
        for (int n = 0; n < numbers; n++) {
            if (tokens.size() <= n + 1 || !tokens.get(n + 1).matches("[0-9]{1,2}")) return -(n + 1);
            v[n] = Integer.parseInt(tokens.get(n + 1));
            if (!may(s, word, n, v)) return -(n + 1);
        }
        if (tokens.size() <= numbers + 1 || !tokens.get(numbers + 1).equals(";")) return -(numbers + 1);
        switch (word) {
            case "flight": s.flights.add(new int[] {v[0], v[1]}); break;
            case "goer": s.goers.add(new int[] {v[0], v[1], v[2], 0, 0}); break;
            case "load": s.goers.get(v[0])[4] = v[1]; break;
            case "stride": s.stride(v[0], v[1]); break;
            case "hours": s.hour += v[0]; break;
            default: break;
        }
        return numbers + 2;
    }

    private static boolean may(State s, String word, int n, int[] v) {
        switch (word + n) {
            case "flight0": case "goer0": return v[n] <= 5;
            case "flight1": return in(v[n], 1, 10);
            case "goer1": return in(v[n], 1, 4);
            case "goer2": return v[n] < s.flights.size();
            case "load0": return v[n] < s.goers.size();
            case "load1": return v[n] <= 9;
            case "stride0": return v[n] < s.goers.size() && s.goers.get(v[n])[3] != 11;
            case "stride1": return in(v[n], 1, s.far(v[0]));
            default: return v[n] >= 1;
        }
    }

    int strides(int i, int k) {
        if (!go(i) || !in(k, 1, 9)) return bad();
        if (now.goers.get(i)[3] == 11 || k > now.far(i)) return no();
        keep();
        return now.stride(i, k);
    }

    private int change(int[] what, int place, int value) {
        int was = what[place];
        if (was == value) return no();
        keep();
        what[place] = value;
        return was;
    }

    int begins(int i) { return go(i) ? change(now.goers.get(i), 3, 0) : bad(); }
    int loads(int i, int x) { return go(i) && in(x, 0, 9) ? change(now.goers.get(i), 4, x) : bad(); }
    int sells(int f, int s) { return fl(f) && in(s, 1, 10) ? change(now.flights.get(f), 1, s) : bad(); }

    int hours(int n) {
        if (!in(n, 1, 99)) return bad();
        keep();
        now.hour = Math.min(9999, now.hour + n);
        return now.hour;
    }

    int undo() {
        if (now.past.isEmpty()) return no();
        // An image may hold the same moment: what goes on is a copy.
        State back = now.past.removeLast().copy(false);
        back.past = now.past;
        back.seen = now.seen;
        back.notes = now.notes;
        back.marks = now.marks;
        now = back;
        return now.hour;
    }

    int of(int i, int what) {
        if (!go(i) || !in(what, 0, 5)) return bad();
        return what == 5 ? now.far(i) : now.goers.get(i)[what];
    }

    int about(int f, int what) {
        if (!fl(f) || !in(what, 0, 2)) return bad();
        if (what < 2) return now.flights.get(f)[what];
        int bits = 0;
        for (int p = 0; p <= 11; p++) if (now.barred(f, p)) bits |= 1 << p;
        return bits;
    }

    /** Rows of n strides are tried in their order; the first that comes to the top is it. */
    private static List<Integer> row(int kind, int own, int p, int far, int t) {
        for (int n = 0; n <= 11; n++) {
            List<Integer> row = tryRow(kind, own, p, far, t, n);
            if (row != null) return row;
        }
        return null;
    }

    private static List<Integer> tryRow(int kind, int own, int p, int far, int t, int n) {
        if (p == 11) return n == 0 ? new ArrayList<>() : null;
        if (n == 0 || p + n * far < 11) return null;
        for (int k = 1; k <= far; k++) {
            int q = Math.min(11, p + k);
            if (barredBy(kind, own, q, t)) continue;
            List<Integer> rest = tryRow(kind, own, q, far, t, n - 1);
            if (rest == null) continue;
            rest.add(0, k);
            return rest;
        }
        return null;
    }

    private List<Integer> rowOf(int i, int t) {
        int[] g = now.goers.get(i), f = now.flights.get(g[2]);
        return row(f[0], f[1], g[3], GOERS[g[0]].far(g[1], g[4], t), t);
    }

    private List<Integer> rowOf(int i) { return rowOf(i, now.hour % 24); }

    int up(int i, int k) {
        if (!go(i) || k < -1) {
            bad();
            return -10;
        }
        List<Integer> row = rowOf(i);
        if (row == null) return -6;
        if (k == -1) return row.size();
        return k < row.size() ? row.get(k) : -5;
    }

    int stuck() {
        int bits = 0;
        for (int i = 0; i < now.goers.size(); i++) if (rowOf(i) == null) bits |= 1 << i;
        return bits;
    }

    int soon(int i, int what) {
        if (!go(i) || !in(what, 0, 1)) return bad();
        TreeMap<Integer, Integer> hours = new TreeMap<>();
        for (int t = 0; t < 24; t++) if (rowOf(i, t) != null) hours.putIfAbsent(rowOf(i, t).size(), t);
        if (hours.isEmpty()) return -1;
        return what == 0 ? hours.firstEntry().getValue() : hours.firstKey();
    }

    int site(int f, int what) {
        if (!fl(f) || !in(what, 0, 1)) return bad();
        TreeMap<Integer, Integer> steps = new TreeMap<>();
        for (int s = 1; s <= 10; s++) {
            int all = 0;
            for (int i = 0; i < now.goers.size(); i++) {
                if (now.goers.get(i)[2] != f) continue;
                List<Integer> row = row(now.flights.get(f)[0], s, 0, now.far(i), now.hour % 24);
                all += row == null ? 20 : row.size();
            }
            steps.putIfAbsent(all, s);
        }
        return what == 0 ? steps.firstEntry().getValue() : steps.firstKey();
    }

    private static int place(int p, List<Integer> row, int n) {
        int q = p;
        for (int k = 0; k < n && k < row.size(); k++) q = Math.min(11, q + row.get(k));
        return q;
    }

    int meets(int i, int j) {
        if (!go(i) || !go(j) || i == j || now.goers.get(i)[2] != now.goers.get(j)[2]) return bad();
        List<Integer> a = rowOf(i), b = rowOf(j);
        if (a == null || b == null) return -1;
        int n = 0;
        while (place(now.goers.get(i)[3], a, n) != place(now.goers.get(j)[3], b, n)) n++;
        return n;
    }

    private int more(List<int[]> list, int most, int... one) {
        if (list.size() == most) return full();
        list.add(one);
        return list.size();
    }

    int seen(int f, int s, int t, int barred) {
        if (!fl(f) || !in(s, 1, 10) || !in(t, 0, 23) || !in(barred, 0, 1)) return bad();
        return more(now.seen, 5, f, s, t, barred);
    }

    int whose(int f) {
        if (!fl(f)) return bad();
        int bits = 0;
        for (int own = 1; own <= 10; own++) {
            boolean fits = true;
            for (int[] a : now.seen) {
                if (a[0] == f && barredBy(now.flights.get(f)[0], own, a[1], a[2]) != (a[3] == 1)) fits = false;
            }
            if (fits) bits |= 1 << own;
        }
        return bits;
    }

    int tell(int f) {
        if (!fl(f)) return bad();
        int fit = whose(f);
        if (fit == 0) return -1;
        TreeMap<Integer, Integer> best = new TreeMap<>();
        for (int st = 100; st < 1024; st++) {
            if (st % 100 > 23) continue;
            int[] parts = new int[2];
            for (int own = 1; own <= 10; own++) {
                if ((fit >> own & 1) == 1) parts[barredBy(now.flights.get(f)[0], own, st / 100, st % 100) ? 1 : 0]++;
            }
            best.putIfAbsent(Math.max(parts[0], parts[1]), st);
        }
        return best.firstEntry().getValue();
    }

    int note(int f, int t, int x) {
        if (!fl(f) || !in(t, 0, 23) || !in(x, 0, 9)) return bad();
        return more(now.notes, 6, f, t, x);
    }

    int mark(int i, int l, int x, int t, int y) {
        if (!go(i) || !in(l, 1, 4) || !in(x, 0, 9) || !in(t, 0, 23) || !in(y, 0, 9)) return bad();
        return more(now.marks, 6, i, l, x, t, y);
    }

    int forget(int what) {
        if (!in(what, 0, 2)) return bad();
        List<int[]> list = what == 0 ? now.seen : what == 1 ? now.notes : now.marks;
        int n = list.size();
        list.clear();
        return n;
    }

    int is(int f) {
        if (!fl(f)) return bad();
        int bits = 63;
        for (int[] a : now.notes) {
            for (int k = 0; k < 6; k++) if (a[0] == f && OWNERS[k].bars(a[1]) != a[2]) bits &= ~(1 << k);
        }
        return bits;
    }

    private static int largest(int[] answers, int fit) {
        int largest = 0;
        for (int k = 0; k < 6; k++) {
            int same = 0;
            for (int j = 0; j < 6; j++) if ((fit >> j & 1) == 1 && answers[j] == answers[k]) same++;
            if ((fit >> k & 1) == 1) largest = Math.max(largest, same);
        }
        return largest;
    }

    int look(int f) {
        if (!fl(f)) return bad();
        int fit = is(f);
        if (fit == 0) return -1;
        TreeMap<Integer, Integer> best = new TreeMap<>();
        for (int t = 0; t < 24; t++) {
            int[] answers = new int[6];
            for (int k = 0; k < 6; k++) answers[k] = OWNERS[k].bars(t);
            best.putIfAbsent(largest(answers, fit), t);
        }
        return best.firstEntry().getValue();
    }

    int kinds(int i) {
        if (!go(i)) return bad();
        int bits = 63;
        for (int[] a : now.marks) {
            for (int k = 0; k < 6; k++) if (a[0] == i && GOERS[k].far(a[1], a[2], a[3]) != a[4]) bits &= ~(1 << k);
        }
        return bits;
    }

    int ask(int i) {
        if (!go(i)) return bad();
        int fit = kinds(i);
        if (fit == 0) return -1;
        TreeMap<Integer, Integer> best = new TreeMap<>();
        for (int xt = 0; xt < 1000; xt++) {
            if (xt % 100 > 23) continue;
            int[] answers = new int[6];
            for (int k = 0; k < 6; k++) answers[k] = GOERS[k].far(now.goers.get(i)[1], xt / 100, xt % 100);
            best.putIfAbsent(largest(answers, fit), xt);
        }
        return best.firstEntry().getValue();
    }

    int gap(int a, int b) {
        if (!go(a) || !go(b) || a == b) return bad();
        int bothA = -now.goers.get(a)[4] - 2, bothB = -now.goers.get(b)[4] - 2;
        int bits = 0;
        if (2 >= 4) bits |= 1;
        if (4 >= 2 && 1 >= bothB) bits |= 2;
        if (4 >= 2 && 1 >= bothA) bits |= 4;
        if (bothA >= 1 && bothB >= 1) bits |= 8;
        return bits;
    }

    int dark(int i, int n, int c) {
        if (!go(i) || !in(n, 0, 6) || !in(c, 0, 10)) return bad();
        List<Integer> row = rowOf(i);
        long sum = 0, all = 1;
        if (row != null) {
            int m = Math.min(n, row.size());
            for (int k = 0; k < m; k++) all *= 10;
            for (int higher = 0; higher < 1 << m; higher++) sum += weight(i, row, m, c, higher);
        }
        BigInteger d = BigInteger.valueOf(sum).gcd(BigInteger.valueOf(all));
        above = BigInteger.valueOf(sum).divide(d);
        below = BigInteger.valueOf(all).divide(d);
        return 1;
    }

    private long weight(int i, List<Integer> row, int m, int c, int higher) {
        int p = now.goers.get(i)[3];
        long w = 1;
        for (int k = 0; k < m; k++) {
            boolean up = (higher >> k & 1) == 1;
            w *= up ? c : 10 - c;
            p = Math.min(11, p + row.get(k) + (up ? 1 : 0));
            if (now.barred(now.goers.get(i)[2], p)) return 0;
        }
        return w;
    }

    int years(int seed, int n) {
        if (!in(seed, 0, 999999) || !in(n, 0, 60)) return bad();
        State s = now.copy(false);
        BigInteger x = BigInteger.valueOf(seed), mod = BigInteger.ONE.shiftLeft(31);
        for (int turn = 0; turn < n; turn++) {
            x = x.multiply(BigInteger.valueOf(1103515245)).add(BigInteger.valueOf(12345)).mod(mod);
            int i = x.shiftRight(16).mod(BigInteger.valueOf(6)).intValue();
            if (i < s.goers.size() && s.goers.get(i)[3] != 11) {
                s.stride(i, x.shiftRight(20).mod(BigInteger.valueOf(s.far(i))).intValue() + 1);
            }
            if (s.hour < 9999) s.hour++;
        }
        return s.falls - now.falls;
    }

    long part(int what) {
        if (!in(what, 0, 1)) return bad();
        return (what == 0 ? above : below).longValueExact();
    }

    int image(int i) {
        if (!in(i, 0, 1)) return bad();
        images[i] = now.copy(true);
        return 1;
    }

    int from(int i) {
        if (!in(i, 0, 1)) return bad();
        if (images[i] == null) return no();
        now = images[i].copy(true);
        return 1;
    }

    int status(int what) {
        if (in(what, 0, 2)) return refused[what];
        bad();
        return -1;
    }

    int count(int what) {
        if (!in(what, 0, 9)) return bad();
        int over = 0;
        for (int[] g : now.goers) if (g[3] == 11) over++;
        return new int[] {now.goers.size(), now.flights.size(), over, now.hour, now.falls, now.seen.size(),
            now.notes.size(), now.marks.size(), now.past.size(), text.length()}[what];
    }

    long digest() {
        List<Long> all = new ArrayList<>();
        for (int what = 0; what <= 9; what++) all.add((long) count(what));
        for (List<int[]> list : List.of(now.flights, now.goers, now.seen, now.notes, now.marks)) {
            for (int[] one : list) for (int v : one) all.add((long) v);
        }
        all.add(above.longValueExact());
        all.add(below.longValueExact());
        BigInteger h = BigInteger.valueOf(1777);
        for (long v : all) h = h.multiply(BigInteger.valueOf(31)).add(BigInteger.valueOf(v));
        return h.longValue();
    }
}
