import java.util.ArrayDeque;
import java.util.ArrayList;
import java.util.Arrays;
import java.util.List;
import java.util.function.Predicate;
import java.util.regex.Matcher;
import java.util.regex.Pattern;

/**
 * The document told a second time, in another way: objects that are copied, every plan written out,
 * exceptions where the host refuses. ModelTest holds the class against it.
 */
public class Model {
    static final int BAD = -1, FULL = -2, NONE = -3, STATE = -4;

    // ---- kinds as things, as the document tells them

    static List<Integer> ran = new ArrayList<>();

    static class P {
        int n, a, lean, gap;
        boolean fallen;
        int kind() { return 0; }
        int leans(int w, int h, int y) { return 2 + w; }
        int bears() { return 40 - 2 * gap; }
        int tips(int x) { ran.add(10); return x * 10 - n; }
        int taps(int x) { ran.add(11); return tips(x) + 3 * a; }
        int halves(int x) { ran.add(12); return x / (a - n + 4); }
        int turns(int x) { ran.add(13); return taps(x) ^ halves(x); }
    }
    static class A extends P {
        int kind() { return 1; }
        int leans(int w, int h, int y) { return 1; }
        int bears() { return 95; }
        int tips(int x) { ran.add(20); return super.tips(x) ^ 30; }
    }
    static class F extends P {
        int kind() { return 2; }
        int leans(int w, int h, int y) { return (2 + w) * 2; }
        int bears() { return 32 - 2 * gap; }
        int taps(int x) { ran.add(30); return super.taps(x) * 2; }
    }
    static class E extends F {
        int kind() { return 3; }
        int leans(int w, int h, int y) { return (2 + w) * 2 + y / 6; }
        int bears() { return 32 - gap; }
        int tips(int x) { ran.add(50); return super.tips(x - 14); }
        int turns(int x) { ran.add(51); return super.turns(x) - taps(a); }
    }
    static class G extends P {
        int kind() { return 4; }
        int leans(int w, int h, int y) { int l = 2 + w - h; return l < 0 ? 0 : l; }
        int bears() { return 50 - 2 * gap; }
        int halves(int x) { ran.add(40); return super.halves(x) + 5; }
    }
    static class S extends G {
        int kind() { return 5; }
        int leans(int w, int h, int y) { return y % 2 == 1 ? 0 : super.leans(w, h, y); }
        int bears() { return 50 - 2 * gap + n; }
        int taps(int x) { ran.add(60); return 0 - super.taps(x); }
        int halves(int x) { ran.add(61); return super.halves(x) + tips(n); }
    }

    static P make(int kind) {
        switch (kind) {
            case 1: return new A();
            case 2: return new F();
            case 3: return new E();
            case 4: return new G();
            case 5: return new S();
            default: throw new IllegalStateException();
        }
    }

    static P copy(P p, int kind) {
        P q = make(kind);
        q.n = p.n; q.a = p.a; q.lean = p.lean; q.gap = p.gap; q.fallen = p.fallen;
        return q;
    }

    static boolean isA(P p, int kind) {
        switch (kind) {
            case 0: return true;
            case 1: return p instanceof A;
            case 2: return p instanceof F;
            case 3: return p instanceof E;
            case 4: return p instanceof G;
            default: return p instanceof S;
        }
    }

    // ---- rules as predicates

    record Facts(int year, int lean, int gap, int word, int number) { }
    record Rule(int kind, Predicate<Facts> when, int doing) { }
    record Report(int k, int asked, int least, int most) { }

    static class Fault extends RuntimeException {
        private static final long serialVersionUID = 1;
        final int place;
        Fault(int place) { this.place = place; }
    }

    static class Reader {
        final String text;
        final List<String> words = new ArrayList<>();
        final List<Integer> places = new ArrayList<>();
        int at = 0;

        Reader(String text) {
            this.text = text;
            Matcher m = Pattern.compile("[a-z]+|[0-9]+|[^ ]", Pattern.DOTALL).matcher(text);
            while (m.find()) { words.add(m.group()); places.add(m.start()); }
        }
        String peek() { return at < words.size() ? words.get(at) : ""; }
        Fault fault() { return new Fault(at < words.size() ? places.get(at) : text.length()); }
        boolean eat(String w) { if (peek().equals(w)) { at++; return true; } return false; }
        void need(String w) { if (!eat(w)) throw fault(); }
        int oneOf(String... ws) {
            int i = Arrays.asList(ws).indexOf(peek());
            if (i < 0 || peek().isEmpty()) throw fault();
            at++;
            return i;
        }
        List<Rule> text() {
            List<Rule> rules = new ArrayList<>();
            while (at < words.size()) {
                if (rules.size() == 8) throw fault();
                int kind = oneOf("piece", "aunt", "father", "eldest", "girl", "sailor");
                Predicate<Facts> when = f -> true;
                if (eat("if")) when = cond(0);
                int doing = oneOf("say", "stand", "hold");
                need(";");
                rules.add(new Rule(kind, when, doing));
            }
            return rules;
        }
        Predicate<Facts> cond(int open) {
            Predicate<Facts> p = all(open);
            while (eat("or")) p = p.or(all(open));
            return p;
        }
        Predicate<Facts> all(int open) {
            Predicate<Facts> p = one(open);
            while (eat("and")) p = p.and(one(open));
            return p;
        }
        Predicate<Facts> one(int open) {
            if (eat("not")) return one(open).negate();
            if (peek().equals("(")) {
                if (open == 3) throw fault();
                at++;
                Predicate<Facts> p = cond(open + 1);
                need(")");
                return p;
            }
            java.util.function.ToIntFunction<Facts> l = value();
            int sign = oneOf("<", "=", ">");
            java.util.function.ToIntFunction<Facts> r = value();
            return f -> {
                int c = Integer.compare(l.applyAsInt(f), r.applyAsInt(f));
                return sign == 0 ? c < 0 : sign == 1 ? c == 0 : c > 0;
            };
        }
        java.util.function.ToIntFunction<Facts> value() {
            String w = peek();
            if (w.matches("[0-9]{1,4}")) { at++; int v = Integer.parseInt(w); return f -> v; }
            switch (oneOf("year", "lean", "gap", "word", "number")) {
                case 0: return f -> f.year;
                case 1: return f -> f.lean;
                case 2: return f -> f.gap;
                case 3: return f -> f.word;
                default: return f -> f.number;
            }
        }
    }

    // ---- the street: all of it is copied when something is asked

    static class World {
        List<P> pieces = new ArrayList<>();
        List<Rule> rules = new ArrayList<>();
        List<Report> reports = new ArrayList<>();
        int[] sayings = new int[16], stair = new int[6], hand = new int[6];
        int year = 0, end = 12, score = 0, z = 1;

        World() { Arrays.fill(sayings, 6); }
        World copy() {
            World w = new World();
            for (P p : pieces) w.pieces.add(Model.copy(p, p.kind()));
            w.rules = new ArrayList<>(rules);
            w.reports = new ArrayList<>(reports);
            w.sayings = sayings.clone(); w.stair = stair.clone(); w.hand = hand.clone();
            w.year = year; w.end = end; w.score = score; w.z = z;
            return w;
        }
        boolean over() { return year >= end; }
        int saying() { return year > 15 ? 0 : sayings[year]; }
        int word() { return saying() / 4; }
        int hush() { return saying() % 4; }
        int pays(P p) { return !p.fallen && p.lean + 6 * word() >= p.bears() ? 4 + p.gap : 0; }
        int will(P p) {
            Facts f = new Facts(year, p.lean, p.gap, word(), p.n);
            for (Rule r : rules) if (isA(p, r.kind) && r.when.test(f)) return r.doing;
            return 0;
        }
        boolean may(P p) { return will(p) == 0 && pays(p) > 0; }
        void falls(P p) {
            p.fallen = true;
            for (P q : pieces) if (!q.fallen && q.a == p.a + 1) q.lean = Math.min(99, q.lean + 12 + stair[q.a]);
        }
        int go(int act) {
            int worth = 0;
            if (act > 0) {
                P p = pieces.get(act - 1);
                int will = will(p);
                if (!p.fallen && will == 0) {
                    int pays = pays(p);
                    worth += pays;
                    if (pays > 0) falls(p);
                }
                if (!p.fallen && will == 2) {
                    p.lean = Math.max(0, p.lean - (10 + hand[p.a]));
                    if (hush() > 1) worth++;
                }
            }
            List<P> bent = new ArrayList<>();
            for (P p : pieces) if (!p.fallen && p.lean - p.bears() >= 12) bent.add(p);
            for (P p : bent) { falls(p); worth++; }
            for (P p : pieces) if (!p.fallen) p.lean = Math.min(99, p.lean + p.leans(word(), hush(), year));
            year++;
            return worth;
        }
        int restAct() {
            for (P p : pieces) if (may(p)) return p.n + 1;
            return 0;
        }
        int rest(int n) {
            int worth = 0;
            for (int i = 0; i < n && !over(); i++) worth += go(restAct());
            return worth;
        }
        int set() {
            int s = 0;
            for (P p : pieces) if (p.fallen) s |= 1 << p.n;
            return s;
        }
        int lots() {
            int worth = 0;
            while (!over()) worth += lot();
            return worth;
        }
        int lot() {
            z = z * 1103515245 + 12345;
            return go((z >>> 16) % (pieces.size() + 1));
        }
    }

    World w = new World();
    World kept = null;
    byte[] tape = new byte[0];
    List<int[]> rows = new ArrayList<>();
    Object[] sheets = new Object[4];
    Object[] shelves = new Object[4];
    List<Integer> trace = new ArrayList<>();

    boolean piece(int k) { return k >= 0 && k < w.pieces.size(); }
    static boolean in(int v, int a, int b) { return v >= a && v <= b; }

    public int piece(int kind, int lean, int gap, int room) {
        if (!in(kind, 1, 5) || !in(lean, 0, 99) || !in(gap, 0, 9) || !in(room, 0, 5)) return BAD;
        if (w.pieces.size() == 6) return FULL;
        P p = make(kind);
        p.lean = lean; p.gap = gap; p.a = room; p.n = w.pieces.size();
        w.pieces.add(p);
        return p.n;
    }
    public int pieceOf(int k, int what) {
        if (!piece(k) || !in(what, 0, 9)) return BAD;
        P p = w.pieces.get(k);
        int[] all = {p.kind(), p.lean, p.gap, p.a, p.fallen ? 1 : 0, p.leans(w.word(), w.hush(), w.year), p.bears(),
            w.pays(p), w.may(p) ? 1 : 0, w.will(p)};
        return all[what];
    }
    public int change(int k, int what, int v) {
        if (!piece(k) || !in(what, 1, 4) || !in(v, 0, new int[] {0, 99, 9, 5, 1}[what])) return BAD;
        int was = pieceOf(k, what);
        P p = w.pieces.get(k);
        if (what == 1) p.lean = v;
        if (what == 2) p.gap = v;
        if (what == 3) p.a = v;
        if (what == 4) p.fallen = v == 1;
        return was;
    }
    public int remake(int k, int kind) {
        if (!piece(k) || !in(kind, 1, 5)) return BAD;
        P p = w.pieces.get(k);
        w.pieces.set(k, copy(p, kind));
        return p.kind();
    }
    public int saying(int year, int v) {
        if (!in(year, 0, 15) || !in(v, 0, 15)) return BAD;
        int was = w.sayings[year];
        w.sayings[year] = v;
        return was;
    }
    public int room(int f, int what, int v) {
        int was = roomOf(f, what);
        if (was < 0 || !in(v, 0, 9)) return BAD;
        (what == 0 ? w.stair : w.hand)[f] = v;
        return was;
    }
    public int roomOf(int f, int what) {
        if (!in(f, 0, 5) || !in(what, 0, 1)) return BAD;
        return (what == 0 ? w.stair : w.hand)[f];
    }
    public int ends(int v) {
        if (!in(v, 1, 16)) return BAD;
        if (v < w.year) return STATE;
        int was = w.end;
        w.end = v;
        return was;
    }
    public int anew() {
        int was = w.year;
        w.year = 0;
        w.score = 0;
        for (P p : w.pieces) p.fallen = false;
        return was;
    }
    public int state(int what) {
        if (!in(what, 0, 6)) return BAD;
        int sum = 0;
        for (P p : w.pieces) sum += p.lean;
        return new int[] {w.year, w.end, w.score, w.over() ? 1 : 0, w.set(), w.saying(), sum}[what];
    }
    public int feed(long eight, int n) {
        if (!in(n, 1, 8)) return BAD;
        if (tape.length + n > 200) return FULL;
        int had = tape.length;
        tape = Arrays.copyOf(tape, had + n);
        for (int i = 0; i < n; i++) tape[had + i] = (byte) (eight >>> 8 * i);
        return tape.length;
    }
    public int rules() {
        String text = new String(tape, java.nio.charset.StandardCharsets.ISO_8859_1);
        tape = new byte[0];
        try {
            w.rules = new Reader(text).text();
            return w.rules.size();
        } catch (Fault f) {
            return -100 - f.place;
        }
    }
    public int year() {
        if (w.over()) return STATE;
        int worth = w.go(w.restAct());
        w.score += worth;
        return worth;
    }
    public int on(int n) { return in(n, 0, 16) ? w.copy().rest(n) : BAD; }
    int first(int k, boolean rest) {
        if (!piece(k)) return BAD;
        if (w.pieces.get(k).fallen) return NONE;
        World v = w.copy();
        while (!v.over()) {
            int year = v.year;
            v.go(rest ? v.restAct() : 0);
            if (v.pieces.get(k).fallen) return year;
        }
        return NONE;
    }
    public int when(int k) { return first(k, true); }
    public int gapFor(int k) { return bestFor(k, 9, true); }
    public int roomFor(int k) { return bestFor(k, 5, false); }
    int bestFor(int k, int most, boolean gap) {
        if (!piece(k)) return BAD;
        int best = -1, at = -1;
        for (int i = 0; i <= most; i++) {
            World v = w.copy();
            if (gap) v.pieces.get(k).gap = i; else v.pieces.get(k).a = i;
            int worth = v.rest(99);
            if (worth > best) { best = worth; at = i; }
        }
        return at;
    }
    public int itself(int k) { return first(k, false); }
    public int least(int k) {
        if (!piece(k)) return BAD;
        P p = w.pieces.get(k);
        if (p.fallen) return NONE;
        for (int i = 0; i < 4; i++) {
            World v = w.copy();
            v.year = 0;
            v.sayings[0] = 4 * i;
            if (v.pays(p) > 0) return i;
        }
        return NONE;
    }
    public int wave(int k, int n) {
        if (!piece(k) || !in(n, 0, 16)) return BAD;
        World v = w.copy();
        if (!v.pieces.get(k).fallen) v.falls(v.pieces.get(k));
        for (int i = 0; i < n && !v.over(); i++) v.go(0);
        return v.set();
    }
    public int chains(int what) {
        if (what != -1 && !piece(what)) return BAD;
        // colours: two that are close take the lesser one till nothing changes
        int c = w.pieces.size();
        int[] colour = new int[c];
        for (int i = 0; i < c; i++) colour[i] = i;
        for (boolean more = true; more; ) {
            more = false;
            for (P p : w.pieces) for (P q : w.pieces) {
                if (!p.fallen && !q.fallen && Math.abs(p.a - q.a) < 2 && colour[p.n] < colour[q.n]) {
                    colour[q.n] = colour[p.n];
                    more = true;
                }
            }
        }
        int set = 0, count = 0;
        for (P p : w.pieces) if (!p.fallen) {
            if (colour[p.n] == p.n) count++;
            if (what >= 0 && colour[p.n] == colour[what]) set |= 1 << p.n;
        }
        if (what == -1) return count;
        return w.pieces.get(what).fallen ? 0 : set;
    }

    // ---- every plan written out

    List<int[]> plans(int n) {
        int len = Math.max(0, Math.min(n, w.end - w.year));
        List<int[]> all = new ArrayList<>();
        all.add(new int[0]);
        for (int i = 0; i < len; i++) {
            List<int[]> longer = new ArrayList<>();
            for (int[] p : all) for (int a = 0; a <= w.pieces.size(); a++) {
                int[] q = Arrays.copyOf(p, i + 1);
                q[i] = a;
                longer.add(q);
            }
            all = longer;
        }
        return all;
    }
    int bestWorth, bestCount;
    int[] bestPlan;
    void search(int n) {
        bestWorth = -1;
        for (int[] p : plans(n)) {
            World v = w.copy();
            int worth = 0;
            for (int a : p) worth += v.go(a);
            if (worth > bestWorth) { bestWorth = worth; bestCount = 0; bestPlan = p; }
            if (worth == bestWorth) bestCount++;
        }
    }
    public int best(int n) { if (!in(n, 0, 4)) return BAD; search(n); return bestWorth; }
    public int ith(int n, int i) {
        if (!in(n, 0, 4) || !in(i, 0, 3)) return BAD;
        search(n);
        return i < bestPlan.length ? bestPlan[i] : NONE;
    }
    public int ways(int n) { if (!in(n, 0, 4)) return BAD; search(n); return bestCount; }
    public int line(int n, int pieces) {
        if (!in(n, 0, 4) || pieces < 0 || pieces >> w.pieces.size() != 0) return BAD;
        int fewest = 99;
        for (int[] p : plans(n)) {
            World v = w.copy();
            int acts = 0;
            for (int a : p) { v.go(a); if (a != 0) acts++; }
            if ((v.set() & pieces) == pieces) fewest = Math.min(fewest, acts);
        }
        return fewest == 99 ? NONE : fewest;
    }
    public int bars(int n, int pieces) {
        if (!in(n, 0, 4) || pieces < 0 || pieces >> w.pieces.size() != 0) return BAD;
        for (int k = 0; k < w.pieces.size(); k++) {
            if ((pieces >> k & 1) == 1 && line(n, 1 << k) == NONE) return k;
        }
        return NONE;
    }
    int value(World v, int n, boolean most) {
        if (n == 0 || v.over()) return 0;
        Integer best = null;
        for (int a = 0; a <= v.pieces.size(); a++) {
            World u = v.copy();
            int worth = u.go(a) + value(u, n - 1, !most);
            if (best == null || (most ? worth > best : worth < best)) best = worth;
        }
        return best;
    }
    public int game(int n) { return in(n, 1, 4) ? value(w, n, true) : BAD; }
    public int play(int n) {
        if (!in(n, 1, 4)) return BAD;
        if (w.over()) return NONE;
        int due = value(w, n, true);
        for (int a = 0; ; a++) {
            World u = w.copy();
            if (u.go(a) + value(u, n - 1, false) == due) return a;
        }
    }
    public int report(int k, int asked, int least, int most) {
        if (!in(k, 0, 15) || !in(asked, 0, 1)) return BAD;
        int top = asked == 0 ? 99 : 16;
        if (!in(least, 0, top) || !in(most, 0, top) || most < least) return BAD;
        if (w.reports.size() == 6) return FULL;
        w.reports.add(new Report(k, asked, least, most));
        return w.reports.size() - 1;
    }
    public int forget() { int n = w.reports.size(); w.reports.clear(); return n; }
    boolean so(Report r, int kind, int gap, int lean) {
        P p = make(kind);
        p.gap = gap; p.lean = lean;
        int paid = 0;
        for (int y = 0; y < r.k; y++) {
            int word = w.sayings[y] / 4, hush = w.sayings[y] % 4;
            if (p.lean + 6 * word >= p.bears()) paid++;
            p.lean = Math.min(99, p.lean + p.leans(word, hush, y));
        }
        return in(r.asked == 0 ? p.lean : paid, r.least, r.most);
    }
    List<int[]> fit(int but) {
        List<int[]> all = new ArrayList<>();
        for (int kind = 1; kind <= 5; kind++) for (int gap = 0; gap < 10; gap++) for (int i = 0; i < 10; i++) {
            boolean fits = true;
            for (int r = 0; r < w.reports.size(); r++) fits &= r == but || so(w.reports.get(r), kind, gap, 9 * i);
            if (fits) all.add(new int[] {kind, gap, 9 * i});
        }
        return all;
    }
    public int lone(int what) {
        if (!in(what, 0, 3)) return BAD;
        List<int[]> all = fit(-1);
        if (what == 0) return all.size();
        return all.isEmpty() ? NONE : all.get(0)[what - 1];
    }
    public int liar() {
        if (!fit(-1).isEmpty()) return NONE;
        for (int r = 0; r < w.reports.size(); r++) if (!fit(r).isEmpty()) return r;
        return NONE;
    }
    public int seed(int v) { int was = w.z; w.z = v; return was; }
    public int lot() {
        if (w.over()) return STATE;
        int worth = w.lot();
        w.score += worth;
        return worth;
    }
    public int times(int n, int v) {
        if (!in(n, 1, 40) || !in(v, 0, 999)) return BAD;
        int z = w.z, count = 0;
        for (int i = 0; i < n; i++) {
            World u = w.copy();
            u.z = z;
            if (u.lots() >= v) count++;
            z = u.z;
        }
        return count;
    }
    public int prove(int n) {
        if (!in(n, 0, 4)) return BAD;
        search(n);
        rows = new ArrayList<>();
        World v = w.copy();
        for (int a : bestPlan) { int worth = v.go(a); rows.add(new int[] {a, worth, v.set()}); }
        return rows.size();
    }
    public int row(int k, int what) { return in(k, 0, rows.size() - 1) && in(what, 0, 2) ? rows.get(k)[what] : -9; }
    public int alterRow(int k, int what, int v) {
        if (!in(k, 0, rows.size() - 1) || !in(what, 0, 2)) return -9;
        int was = rows.get(k)[what];
        rows.get(k)[what] = v;
        return was;
    }
    public int judge() {
        World v = w.copy();
        for (int i = 0; i < rows.size(); i++) {
            int[] r = rows.get(i);
            if (v.over() || !in(r[0], 0, w.pieces.size()) || v.go(r[0]) != r[1] || v.set() != r[2]) return i + 1;
        }
        return 0;
    }

    // ---- the host: real arrays, and what the machine throws

    static int sort(Object row) {
        return row instanceof byte[] ? 0 : row instanceof short[] ? 1 : row instanceof int[] ? 2
            : row instanceof long[] ? 3 : row instanceof boolean[] ? 4 : -1;
    }
    interface Body { int run(); }
    static int host(Body b) {
        try {
            return b.run();
        } catch (NullPointerException e) {
            return -11;
        } catch (IndexOutOfBoundsException e) {
            return -12;
        } catch (ClassCastException e) {
            return -13;
        } catch (NegativeArraySizeException e) {
            return -14;
        } catch (ArithmeticException e) {
            return -15;
        }
    }
    public int sheet(int sheet, int sort, int n) {
        if (!in(sheet, 0, 3) || !in(sort, -1, 4) || sort != -1 && n > 40) return BAD;
        return host(() -> {
            Object row = null;
            switch (sort) {
                case 0: row = new byte[n]; break;
                case 1: row = new short[n]; break;
                case 2: row = new int[n]; break;
                case 3: row = new long[n]; break;
                case 4: row = new boolean[n]; break;
                default: break;
            }
            sheets[sheet] = row;
            return 1;
        });
    }
    public int write(int sheet, int i, int v) {
        if (!in(sheet, 0, 3)) return BAD;
        return host(() -> {
            switch (sort(sheets[sheet])) {
                case 0: ((byte[]) sheets[sheet])[i] = (byte) v; break;
                case 1: ((short[]) sheets[sheet])[i] = (short) v; break;
                case 2: ((int[]) sheets[sheet])[i] = v; break;
                case 3: ((long[]) sheets[sheet])[i] = v; break;
                default: ((boolean[]) sheets[sheet])[i] = v != 0; break;
            }
            return 1;
        });
    }
    public int item(int sheet, int sort, int i) {
        if (!in(sheet, 0, 3) || !in(sort, 0, 4)) return BAD;
        return host(() -> {
            switch (sort) {
                case 0: return ((byte[]) sheets[sheet])[i];
                case 1: return ((short[]) sheets[sheet])[i];
                case 2: return ((int[]) sheets[sheet])[i];
                case 3: return (int) ((long[]) sheets[sheet])[i];
                default: return ((boolean[]) sheets[sheet])[i] ? 1 : 0;
            }
        });
    }
    public int goAll(int sheet, int i, int n) {
        if (!in(sheet, 0, 3) || !in(n, 0, 20)) return BAD;
        return host(() -> {
            byte[] acts = (byte[]) sheets[sheet];
            int len = acts.length, sum = 0;
            for (int j = 0; j < n; j++) {
                int act = acts[i + j];
                if (!in(act, 0, w.pieces.size()) || w.over()) continue;
                int worth = w.go(act);
                w.score += worth;
                sum += worth;
            }
            return len < 0 ? 0 : sum;
        });
    }
    public int wouldBe(int sheet, int i, int n) {
        if (!in(sheet, 0, 3) || !in(n, 0, 20)) return BAD;
        return host(() -> {
            byte[] acts = (byte[]) sheets[sheet];
            int len = acts.length, sum = 0;
            World v = w.copy();
            for (int j = 0; j < n; j++) {
                int act = acts[i + j];
                if (!in(act, 0, w.pieces.size()) || v.over()) return STATE;
                sum += v.go(act);
            }
            return len < 0 ? 0 : sum;
        });
    }
    public int shelf(int shelf, int what, int n) {
        if (!in(shelf, 0, 3) || !in(what, 0, 2)) return BAD;
        if (what == 0) {
            if (!piece(n)) return BAD;
            shelves[shelf] = n;
        } else if (what == 1) {
            if (!in(n, 0, 3)) return BAD;
            shelves[shelf] = sheets[n];
        } else {
            shelves[shelf] = null;
        }
        return 1;
    }
    Object held(int shelf) {
        Object o = shelves[shelf];
        if (o instanceof Integer) return piece((Integer) o) ? w.pieces.get((Integer) o) : null;
        return o;
    }
    public int taken(int shelf, int as) {
        if (!in(shelf, 0, 3) || !in(as, 0, 5) && !in(as, 10, 14)) return BAD;
        Object o = held(shelf);
        return host(() -> {
            switch (as) {
                case 0: return ((P) o).n;
                case 1: return ((A) o).n;
                case 2: return ((F) o).n;
                case 3: return ((E) o).n;
                case 4: return ((G) o).n;
                case 5: return ((S) o).n;
                case 10: return ((byte[]) o).length;
                case 11: return ((short[]) o).length;
                case 12: return ((int[]) o).length;
                case 13: return ((long[]) o).length;
                default: return ((boolean[]) o).length;
            }
        });
    }
    public int act(int shelf, int act, int x) {
        trace = new ArrayList<>();
        if (!in(shelf, 0, 3) || !in(act, 0, 3) || !(held(shelf) instanceof P)) return 0;
        P p = (P) held(shelf);
        ran = trace;
        return host(() -> act == 0 ? p.tips(x) : act == 1 ? p.taps(x) : act == 2 ? p.halves(x) : p.turns(x));
    }
    public int trace(int i) { return in(i, 0, Math.min(30, trace.size()) - 1) ? trace.get(i) : NONE; }
    public int many(int what) {
        if (!in(what, 0, 6)) return BAD;
        return new int[] {w.pieces.size(), w.rules.size(), Integer.bitCount(w.set()), w.reports.size(), rows.size(),
            tape.length, Math.min(30, trace.size())}[what];
    }
    public int keep() { kept = w.copy(); return 1; }
    public int again() {
        if (kept == null) return NONE;
        w = kept.copy();
        return w.pieces.size();
    }
}
