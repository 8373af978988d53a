import java.util.ArrayList;
import java.util.HashMap;
import java.util.List;
import java.util.Map;

/**
 * A second telling of the document, written apart from the class and as
 * plainly as it goes: a state per week, loops over everything, whole copies.
 * FuzzTest holds the class against it.
 */
final class Model {
    static final int OPEN = 0, FLOWN = 1, MISSED = 2, EXCUSED = 3, GIVEN = 4;
    static final List<String> DAYS = List.of("mon", "tue", "wed", "thu", "fri", "sat", "sun");
    static final List<String> WORDS = List.of("weeks", "limit", "in", "carrier", "series", "new",
            "ask", "by", "out", "mon", "tue", "wed", "thu", "fri", "sat", "sun");

    static final class Ser {
        int carrier, day, hour, way, cameFrom, cameTo;
        boolean fresh;
        int[] st = new int[30];

        Ser copy() {
            Ser c = new Ser();
            c.carrier = carrier; c.day = day; c.hour = hour; c.way = way; c.fresh = fresh;
            c.cameFrom = cameFrom; c.cameTo = cameTo;
            c.st = st.clone();
            return c;
        }
    }

    static final class Req {
        int carrier, day, hour, way, a, b, by;
    }

    static final class State {
        int n, now, ended;
        int[] lim = new int[24], limIn = new int[24];
        List<String> carriers = new ArrayList<>();
        List<Ser> series = new ArrayList<>();
        List<Req> asks = new ArrayList<>();

        State copy() {
            State c = new State();
            c.n = n; c.now = now; c.ended = ended;
            c.lim = lim.clone(); c.limIn = limIn.clone();
            c.carriers = new ArrayList<>(carriers);
            for (Ser s : series) c.series.add(s.copy());
            c.asks = new ArrayList<>(asks);
            return c;
        }

        int load(int w, int d, int h, int what) {
            int k = 0;
            for (Ser s : series)
                if (s.day == d && s.hour == h && s.st[w] >= 0 && s.st[w] != GIVEN
                        && (what == 0 || what - 1 == s.way)) k++;
            return k;
        }

        /** Whether a series that is in the list now FITS. */
        boolean fits(Ser s) {
            for (int w = now; w < n; w++) {
                if (s.st[w] < 0 || s.st[w] == GIVEN) continue;
                if (load(w, s.day, s.hour, 0) > lim[s.hour]) return false;
                if (s.way == 0 && load(w, s.day, s.hour, 1) > limIn[s.hour]) return false;
            }
            return true;
        }

        Ser made(int carrier, int d, int h, int way, int a, int b) {
            Ser s = new Ser();
            s.carrier = carrier; s.day = d; s.hour = h; s.way = way;
            s.cameFrom = a; s.cameTo = b;
            for (int w = 0; w < 30; w++) s.st[w] = w >= a && w <= b ? OPEN : -1;
            return s;
        }

        boolean wouldFit(int d, int h, int way, int a, int b) {
            State c = copy();
            Ser s = made(0, d, h, way, a, b);
            c.series.add(s);
            return c.fits(s);
        }

        boolean entrant(int carrier, int d) {
            int k = 0;
            for (Ser s : series) if (s.carrier == carrier && s.day == d) k++;
            return k < 2;
        }

        int placeOf(Req r) {
            if (series.size() == 24 || r.b < now) return -1;
            for (int by = 0; by <= r.by; by++) {
                if (r.hour - by >= 0 && wouldFit(r.day, r.hour - by, r.way, r.a, r.b)) return r.hour - by;
                if (r.hour + by <= 23 && wouldFit(r.day, r.hour + by, r.way, r.a, r.b)) return r.hour + by;
            }
            return -1;
        }

        Req choose(List<Req> left, boolean entrantTurn) {
            for (int round = 0; round < 2; round++) {
                boolean sort = (round == 0) == entrantTurn;
                for (int len = 30; len > 0; len--)
                    for (Req r : left)
                        if (r.b - r.a + 1 == len && entrant(r.carrier, r.day) == sort) return r;
            }
            return null;
        }
    }

    /** What a POOL comes to: which ask in which turn, at which hour, and the state then. */
    static final class Drawn {
        List<Req> order = new ArrayList<>();
        Map<Req, Integer> hour = new HashMap<>();
        State after;
    }

    byte[] tape = new byte[0];
    byte[] out = new byte[0];
    State st = null;
    List<State> past = new ArrayList<>();
    int fault = 0, place = -1;

    // ---- text

    private static final class Bad extends RuntimeException {
        private static final long serialVersionUID = 1L;
        final int no, at;
        Bad(int no, int at) { super("fault"); this.no = no; this.at = at; }
    }

    private List<String> toks;
    private List<Integer> ats;
    private int p;

    private void tokens() {
        toks = new ArrayList<>(); ats = new ArrayList<>(); p = 0;
        String s = new String(tape, java.nio.charset.StandardCharsets.ISO_8859_1);
        java.util.regex.Matcher m = java.util.regex.Pattern.compile("[a-z]+|[0-9]+|[^ \\n]", java.util.regex.Pattern.DOTALL).matcher(s);
        while (m.find()) { toks.add(m.group()); ats.add(m.start()); }
        toks.add(""); ats.add(tape.length);
    }

    private String tok() { return toks.get(p); }
    private int at() { return ats.get(p); }
    private void bad(int no) { throw new Bad(no, at()); }
    private void must(String t) { if (!tok().equals(t)) bad(1); p++; }

    private java.math.BigInteger raw() {
        if (!tok().matches("[0-9]+")) bad(1);
        return new java.math.BigInteger(tok());
    }

    private int num(int lo, int hi) {
        java.math.BigInteger v = raw();
        if (v.compareTo(java.math.BigInteger.valueOf(lo)) < 0 || v.compareTo(java.math.BigInteger.valueOf(hi)) > 0) bad(2);
        p++;
        return v.intValue();
    }

    private String name() {
        if (!tok().matches("[a-z]{1,6}") || WORDS.contains(tok())) bad(1);
        return tok();
    }

    private Req common(State s) {
        Req r = new Req();
        r.carrier = s.carriers.indexOf(name());
        if (r.carrier < 0) bad(4);
        p++;
        r.day = DAYS.indexOf(tok());
        if (r.day < 0) bad(1);
        p++;
        r.hour = num(0, 23);
        if (tok().equals("in")) r.way = 0; else if (tok().equals("out")) r.way = 1; else bad(1);
        p++;
        java.math.BigInteger a = raw();
        p++;
        must("-");
        java.math.BigInteger b = raw();
        if (b.compareTo(java.math.BigInteger.valueOf(s.n)) >= 0
                || b.subtract(a).compareTo(java.math.BigInteger.valueOf(4)) < 0) bad(2);
        p++;
        r.a = a.intValue();
        r.b = b.intValue();
        return r;
    }

    private int parse(State s) {
        tokens();
        for (int h = 0; h < 24; h++) { s.lim[h] = 4; s.limIn[h] = 4; }
        boolean[] told = new boolean[24];
        must("weeks");
        s.n = num(5, 30);
        must(";");
        int lines = 1;
        while (!tok().isEmpty()) {
            switch (tok()) {
                case "limit": {
                    if (!s.series.isEmpty()) bad(5);
                    p++;
                    int h = num(0, 23);
                    if (told[h]) { p--; bad(3); }
                    told[h] = true;
                    s.lim[h] = num(0, 9);
                    must("in");
                    s.limIn[h] = num(0, s.lim[h]);
                    must(";");
                    break;
                }
                case "carrier": {
                    if (s.carriers.size() == 8) bad(5);
                    p++;
                    String nm = name();
                    if (s.carriers.contains(nm)) bad(3);
                    s.carriers.add(nm);
                    p++;
                    must(";");
                    break;
                }
                case "series": {
                    if (s.series.size() == 24) bad(5);
                    p++;
                    Req r = common(s);
                    Ser x = s.made(r.carrier, r.day, r.hour, r.way, r.a, r.b);
                    if (tok().equals("new")) { x.fresh = true; p++; }
                    if (!tok().equals(";")) bad(1);
                    s.series.add(x);
                    if (!s.fits(x)) bad(6);
                    p++;
                    break;
                }
                case "ask": {
                    if (s.asks.size() == 24) bad(5);
                    p++;
                    Req r = common(s);
                    if (tok().equals("by")) { p++; r.by = num(0, 9); }
                    must(";");
                    s.asks.add(r);
                    break;
                }
                default: bad(1);
            }
            lines++;
        }
        return lines;
    }

    int text() {
        State s = new State();
        int lines;
        try {
            lines = parse(s);
        } catch (Bad b) {
            fault = b.no; place = b.at; tape = new byte[0];
            return -4;
        }
        fault = 0; place = -1; tape = new byte[0];
        st = s;
        past.clear();
        return lines;
    }

    int feed(int v0, int v1, int v2, int v3, int v4) {
        if (tape.length + 20 > 1200) return -1;
        int[] v = {v0, v1, v2, v3, v4};
        byte[] t = java.util.Arrays.copyOf(tape, tape.length + 20);
        for (int i = 0; i < 20; i++) t[tape.length + i] = (byte) (v[i / 4] >> (24 - 8 * (i % 4)));
        tape = t;
        return tape.length;
    }

    int end(int n) {
        if (n < 0 || n > tape.length) return -1;
        tape = java.util.Arrays.copyOf(tape, n);
        return n;
    }

    int fault(int what) { return what == 0 ? fault : what == 1 ? place : -1; }

    int count(int what) {
        if (what == 6) return past.size();
        if (what == 7) return tape.length;
        if (what < 0 || what > 7) return -1;
        if (st == null) return 0;
        return new int[] {st.n, st.carriers.size(), st.series.size(), st.asks.size(), st.now, st.ended}[what];
    }

    // ---- what is and isn't there

    boolean noS(int s) { return st == null || s < 0 || s >= st.series.size(); }
    boolean noA(int a) { return st == null || a < 0 || a >= st.asks.size(); }
    boolean noC(int c) { return st == null || c < 0 || c >= st.carriers.size(); }
    boolean noW(int w) { return st == null || w < 0 || w >= st.n; }
    boolean noD(int d) { return st == null || d < 0 || d > 6; }
    boolean noH(int h) { return st == null || h < 0 || h > 23; }
    boolean noX(int x, int most) { return st == null || x < 0 || x > most; }

    int letter(int c, int i) {
        if (noC(c) || noX(i, 5)) return -2;
        String s = st.carriers.get(c);
        return i < s.length() ? s.charAt(i) - 'a' + 1 : 0;
    }

    int find() {
        String s = new String(tape, java.nio.charset.StandardCharsets.ISO_8859_1);
        tape = new byte[0];
        if (st == null || !s.matches("[a-z]{1,6}") || s.endsWith("\n")) return -2;
        return st.carriers.indexOf(s);
    }

    int bits(Ser s, int state) {
        int m = 0;
        for (int w = 0; w < st.n; w++) if (state == -9 ? s.st[w] >= 0 : s.st[w] == state) m |= 1 << w;
        return m;
    }

    int series(int i, int what) {
        if (noS(i) || noX(what, 5)) return -2;
        Ser s = st.series.get(i);
        return new int[] {s.carrier, s.day, s.hour, s.way, s.fresh ? 1 : 0, bits(s, -9)}[what];
    }

    int weeks(int i, int what) { return noS(i) || noX(what, 4) ? -2 : bits(st.series.get(i), what); }
    int week(int i, int w) { return noS(i) || noW(w) ? -2 : st.series.get(i).st[w]; }

    int asked(int a, int what) {
        if (noA(a) || noX(what, 6)) return -2;
        Req r = st.asks.get(a);
        return new int[] {r.carrier, r.day, r.hour, r.way, r.a, r.b, r.by}[what];
    }

    int limitOf(int h, int what) { return noH(h) || noX(what, 1) ? -2 : what == 0 ? st.lim[h] : st.limIn[h]; }

    int load(int w, int d, int h, int what) {
        return noW(w) || noD(d) || noH(h) || noX(what, 2) ? -2 : st.load(w, d, h, what);
    }

    int at(int w, int d, int h, int k) {
        if (noW(w) || noD(d) || noH(h) || k < 0) return -2;
        List<Integer> l = new ArrayList<>();
        for (int i = 0; i < st.series.size(); i++) {
            Ser s = st.series.get(i);
            if (s.day == d && s.hour == h && s.st[w] >= 0 && s.st[w] != GIVEN) l.add(i);
        }
        return k < l.size() ? l.get(k) : -1;
    }

    int room(int w, int d, int h, int way) {
        if (noW(w) || noD(d) || noH(h) || noX(way, 1)) return -2;
        int k = 0;
        while (st.load(w, d, h, 0) + k < st.lim[h] && (way == 1 || st.load(w, d, h, 1) + k < st.limIn[h])) k++;
        return k;
    }

    int num(Ser s, int state) { return Integer.bitCount(bits(s, state)); }
    int basis(Ser s) { return Integer.bitCount(bits(s, -9)) - num(s, GIVEN); }
    int good(Ser s) { return num(s, FLOWN) + num(s, EXCUSED); }

    boolean keptIf(Ser s, int misses) {
        int g = good(s) + num(s, OPEN) - misses;
        return basis(s) > 0 && 5 * g >= 4 * basis(s);
    }

    boolean safe(Ser s) { return keptIf(s, num(s, OPEN)); }
    boolean lost(Ser s) { return !keptIf(s, 0); }

    int use(int i, int what) {
        return noS(i) || noX(what, 1) ? -2 : what == 0 ? basis(st.series.get(i)) : good(st.series.get(i));
    }

    int stands(int i) {
        if (noS(i)) return -2;
        Ser s = st.series.get(i);
        return safe(s) ? 1 : lost(s) ? 2 : 0;
    }

    int spare(int i) {
        if (noS(i)) return -2;
        Ser s = st.series.get(i);
        int m = -1;
        while (m < num(s, OPEN) && keptIf(s, m + 1)) m++;
        return m;
    }

    int of(int c, int d) {
        if (noC(c) || d != -1 && noD(d)) return -2;
        int m = 0;
        for (int i = 0; i < st.series.size(); i++)
            if (st.series.get(i).carrier == c && (d == -1 || st.series.get(i).day == d)) m |= 1 << i;
        return m;
    }

    int entrant(int c, int d) { return noC(c) || noD(d) ? -2 : st.entrant(c, d) ? 1 : 0; }

    int sum(int c, int what) {
        if (noC(c) || noX(what, 4)) return -2;
        int k = 0;
        for (Ser s : st.series) if (s.carrier == c) k += num(s, what);
        return k;
    }

    int best(int k) {
        if (st == null || k < 0) return -2;
        List<long[]> l = new ArrayList<>();
        for (int c = 0; c < st.carriers.size(); c++) {
            long g = 0, b = 0;
            for (Ser s : st.series) if (s.carrier == c) { g += good(s); b += basis(s); }
            l.add(new long[] {c, b == 0 ? -1 : g, b == 0 ? 1 : b});
        }
        l.sort((x, y) -> x[1] * y[2] != y[1] * x[2] ? Long.compare(y[1] * x[2], x[1] * y[2]) : Long.compare(x[0], y[0]));
        return k < l.size() ? (int) l.get(k)[0] : -1;
    }

    int peak(int what) {
        if (noX(what, 1)) return -2;
        if (st.now == st.n) return -1;
        int top = -1, where = 0;
        for (int w = st.now; w < st.n; w++)
            for (int d = 0; d < 7; d++)
                for (int h = 0; h < 24; h++)
                    if (st.load(w, d, h, 0) > top) { top = st.load(w, d, h, 0); where = 1000 * w + 100 * d + h; }
        return what == 0 ? top : where;
    }

    int full(int d) {
        if (noD(d)) return -2;
        int k = 0;
        for (int w = st.now; w < st.n; w++) for (int h = 0; h < 24; h++) if (room(w, d, h, 1) == 0) k++;
        return k;
    }

    int fitting(int d, int way, int a, int b) {
        if (noD(d) || noX(way, 1) || noW(a) || noW(b) || b < a) return -2;
        int m = 0;
        for (int h = 0; h < 24; h++) if (st.wouldFit(d, h, way, a, b)) m |= 1 << h;
        return m;
    }

    int fits(int a) {
        if (noA(a)) return -2;
        Req r = st.asks.get(a);
        return r.b < st.now ? -1 : st.wouldFit(r.day, r.hour, r.way, r.a, r.b) ? 1 : 0;
    }

    int where(int a) { return noA(a) ? -2 : st.placeOf(st.asks.get(a)); }

    int blocked(int a) {
        if (noA(a)) return -2;
        Req r = st.asks.get(a);
        if (r.b < st.now || fits(a) == 1) return 0;
        int m = 0;
        for (int i = 0; i < st.series.size(); i++) {
            State c = st.copy();
            c.series.remove(i);
            if (c.wouldFit(r.day, r.hour, r.way, r.a, r.b)) m |= 1 << i;
        }
        return m;
    }

    Drawn draw(int helped) {
        Drawn d = new Drawn();
        State c = st.copy();
        if (helped >= 0) { c.lim[helped]++; c.limIn[helped]++; }
        List<Req> left = new ArrayList<>(c.asks);
        while (!left.isEmpty()) {
            Req r = c.choose(left, d.order.size() % 2 == 0);
            left.remove(r);
            d.order.add(r);
            int h = c.placeOf(r);
            if (h >= 0) {
                Ser s = c.made(r.carrier, r.day, h, r.way, Math.max(r.a, c.now), r.b);
                s.fresh = true;
                c.series.add(s);
                c.asks.remove(r);
                d.hour.put(r, h);
            }
        }
        d.after = c;
        return d;
    }

    int first() {
        if (st == null) return -2;
        return st.asks.isEmpty() ? -1 : st.asks.indexOf(st.choose(st.asks, true));
    }

    int would() { return st == null ? -2 : draw(-1).hour.size(); }

    int helps(int what) {
        if (noX(what, 1)) return -2;
        int top = -1, hour = -1;
        for (int h = 0; h < 24; h++) {
            int g = draw(h).hour.size();
            if (g > top) { top = g; hour = h; }
        }
        return what == 0 ? hour : top;
    }

    int turn(int a) { return noA(a) ? -2 : draw(-1).order.indexOf(st.asks.get(a)); }
    int granted(int a) { return noA(a) ? -2 : draw(-1).hour.getOrDefault(st.asks.get(a), -1); }

    int kept(int what) {
        if (noX(what, 1)) return -2;
        int m = 0;
        for (int i = 0; i < st.series.size(); i++) if (stands(i) == what + 1) m |= 1 << i;
        return m;
    }

    int common(int s, int t) {
        if (noS(s) || noS(t)) return -2;
        Ser x = st.series.get(s), y = st.series.get(t);
        int k = 0;
        for (int w = 0; w < st.n; w++)
            if (x.st[w] >= 0 && x.st[w] < GIVEN && y.st[w] >= 0 && y.st[w] < GIVEN) k++;
        return x.day == y.day && x.hour == y.hour ? k : 0;
    }

    int idle(int d) {
        if (noD(d)) return -2;
        int m = 0;
        for (int h = 0; h < 24; h++) {
            boolean none = true;
            for (int w = st.now; w < st.n; w++) none &= st.load(w, d, h, 0) == 0;
            if (none) m |= 1 << h;
        }
        return m;
    }

    int clash(int a, int b) {
        if (noA(a) || noA(b)) return -2;
        Req x = st.asks.get(a), y = st.asks.get(b);
        return x.day != y.day || x.hour != y.hour ? 0 : Math.max(0, Math.min(x.b, y.b) - Math.max(x.a, y.a) + 1);
    }

    int rate(int i) {
        if (noS(i)) return -2;
        Ser s = st.series.get(i);
        return basis(s) == 0 ? -1 : good(s) * 100 / basis(s);
    }

    int longest(int i) {
        if (noS(i)) return -2;
        int top = 0, run = 0;
        for (int w = 0; w < st.n; w++) {
            run = st.series.get(i).st[w] == MISSED ? run + 1 : 0;
            top = Math.max(top, run);
        }
        return top;
    }

    int pairs(int c, int d, int within) {
        if (noC(c) || noD(d) || noX(within, 23)) return -2;
        int k = 0;
        for (Ser x : st.series)
            for (Ser y : st.series) {
                if (x.carrier != c || y.carrier != c || x.day != d || y.day != d || x.way != 0 || y.way != 1) continue;
                if (y.hour < x.hour || y.hour > x.hour + within) continue;
                boolean meet = false;
                for (int w = 0; w < st.n; w++)
                    meet |= x.st[w] >= 0 && x.st[w] < GIVEN && y.st[w] >= 0 && y.st[w] < GIVEN;
                if (meet) k++;
            }
        return k;
    }

    int most(int d, int k) {
        if (noD(d) || k < 0) return -2;
        List<int[]> l = new ArrayList<>();
        for (int c = 0; c < st.carriers.size(); c++) {
            int b = 0;
            for (Ser s : st.series) if (s.carrier == c && s.day == d) b += basis(s);
            l.add(new int[] {c, b});
        }
        l.sort((x, y) -> y[1] - x[1]);
        return k < l.size() ? l.get(k)[0] : -1;
    }

    // ---- acts

    void act() {
        past.add(st.copy());
        if (past.size() > 10) past.remove(0);
    }

    int miss(int i, int w) {
        if (noS(i) || noW(w)) return -2;
        if (week(i, w) != OPEN || w < st.now) return -6;
        act();
        st.series.get(i).st[w] = MISSED;
        return spare(i);
    }

    int excuse(int i, int w) {
        if (noS(i) || noW(w)) return -2;
        if (week(i, w) != OPEN && week(i, w) != MISSED) return -6;
        act();
        st.series.get(i).st[w] = EXCUSED;
        return good(st.series.get(i));
    }

    int fly(int i, int w) {
        if (noS(i) || noW(w)) return -2;
        int was = week(i, w);
        if (w < st.now || was != MISSED && was != EXCUSED) return -6;
        act();
        st.series.get(i).st[w] = OPEN;
        return was;
    }

    int give(State s, int i, int w) {
        int k = 0;
        for (int v = w; v < s.n; v++)
            if (s.series.get(i).st[v] == OPEN) { s.series.get(i).st[v] = GIVEN; k++; }
        return k;
    }

    int back(int i, int w) {
        if (noS(i) || noW(w)) return -2;
        if (w - st.now < 4) return -6;
        State c = st.copy();
        int k = give(c, i, w);
        if (k > 0) { act(); st = c; }
        return k;
    }

    int gives(int cr, int d) {
        if (noC(cr) || noD(d)) return -2;
        State c = st.copy();
        int k = 0;
        for (int i = 0; i < c.series.size(); i++)
            if (c.series.get(i).carrier == cr && c.series.get(i).day == d) k += give(c, i, c.now + 4);
        if (k > 0) { act(); st = c; }
        return k;
    }

    int tick() {
        if (st == null) return -2;
        if (st.now == st.n) return -1;
        act();
        for (Ser s : st.series) if (s.st[st.now] == OPEN) s.st[st.now] = FLOWN;
        return ++st.now;
    }

    int pool() {
        if (st == null) return -2;
        Drawn d = draw(-1);
        if (!d.hour.isEmpty()) { act(); st = d.after; }
        return d.hour.size();
    }

    State retimed(int i, int h) {
        State c = st.copy();
        Ser s = c.series.get(i);
        if (c.now == c.n || s.hour == h) return null;
        s.hour = h;
        return c.fits(s) ? c : null;
    }

    int retime(int i, int h) {
        if (noS(i) || noH(h)) return -2;
        State c = retimed(i, h);
        if (c == null) return -6;
        int had = st.series.get(i).hour;
        act();
        st = c;
        return had;
    }

    int movable(int i) {
        if (noS(i)) return -2;
        int m = 0;
        for (int h = 0; h < 24; h++) if (retimed(i, h) != null) m |= 1 << h;
        return m;
    }

    int swapWhy(int i, int j) {
        Ser x = st.series.get(i), y = st.series.get(j);
        if (x.fresh || y.fresh) return -5;
        if (x.carrier == y.carrier) return -6;
        State c = st.copy();
        Ser p1 = c.series.get(i), p2 = c.series.get(j);
        c.series.remove(p1);
        c.series.remove(p2);
        p1.day = y.day; p1.hour = y.hour; p1.way = y.way;
        p2.day = x.day; p2.hour = x.hour; p2.way = x.way;
        c.series.add(p1);
        if (!c.fits(p1)) return -6;
        c.series.add(p2);
        return c.fits(p2) ? 1 : -6;
    }

    int swap(int i, int j) {
        if (noS(i) || noS(j)) return -2;
        int why = swapWhy(i, j);
        if (why != 1) return why;
        act();
        Ser x = st.series.get(i), y = st.series.get(j), z = x.copy();
        x.day = y.day; x.hour = y.hour; x.way = y.way;
        y.day = z.day; y.hour = z.hour; y.way = z.way;
        return 1;
    }

    int partners(int i) {
        if (noS(i)) return -2;
        int m = 0;
        for (int j = 0; j < st.series.size(); j++) if (swapWhy(i, j) == 1) m |= 1 << j;
        return m;
    }

    int hand(int i, int c) {
        if (noS(i) || noC(c)) return -2;
        if (st.series.get(i).fresh) return -5;
        int had = st.series.get(i).carrier;
        if (had == c) return -6;
        act();
        st.series.get(i).carrier = c;
        return had;
    }

    int limit(int h, int n, int m) {
        if (noH(h) || noX(n, 9) || noX(m, n)) return -2;
        for (int w = st.now; w < st.n; w++)
            for (int d = 0; d < 7; d++)
                if (st.load(w, d, h, 0) > n || st.load(w, d, h, 1) > m) return -6;
        int was = 10 * st.lim[h] + st.limIn[h];
        if (was != 10 * n + m) {
            act();
            st.lim[h] = n;
            st.limIn[h] = m;
        }
        return was;
    }

    int ask(int c, int key, int a, int b, int by) {
        if (noC(c) || noX(by, 9) || noW(a) || noW(b) || b - a < 4) return -2;
        Req r = null;
        for (int d = 0; d < 7; d++)
            for (int h = 0; h < 24; h++)
                for (int way = 0; way < 2; way++)
                    if (key == 1000 * d + 10 * h + way) {
                        r = new Req();
                        r.carrier = c; r.day = d; r.hour = h; r.way = way; r.a = a; r.b = b; r.by = by;
                    }
        if (r == null) return -2;
        if (st.asks.size() == 24) return -5;
        act();
        st.asks.add(r);
        return st.asks.size();
    }

    int drop(int a) {
        if (noA(a)) return -2;
        act();
        st.asks.remove(a);
        return st.asks.size();
    }

    int ends() {
        if (st == null) return -2;
        if (st.now < st.n) return -6;
        act();
        List<Ser> stay = new ArrayList<>();
        for (Ser s : st.series)
            if (keptIf(s, 0)) {
                for (int w = 0; w < st.n; w++) s.st[w] = s.st[w] < 0 || s.st[w] == GIVEN ? -1 : OPEN;
                s.fresh = false;
                stay.add(s);
            }
        st.series = stay;
        st.asks.clear();
        st.now = 0;
        st.ended++;
        return stay.size();
    }

    int undo() {
        if (past.isEmpty()) return -1;
        st = past.remove(past.size() - 1);
        return past.size();
    }

    int tell() {
        if (st == null) return -2;
        StringBuilder b = new StringBuilder("weeks " + st.n + ";");
        for (int h = 0; h < 24; h++)
            if (st.lim[h] != 4 || st.limIn[h] != 4)
                b.append("limit " + h + " " + st.lim[h] + " in " + st.limIn[h] + ";");
        for (String c : st.carriers) b.append("carrier " + c + ";");
        for (Ser s : st.series) {
            b.append("series " + st.carriers.get(s.carrier) + " " + DAYS.get(s.day) + " " + s.hour
                    + (s.way == 0 ? " in " : " out ") + s.cameFrom + "-" + s.cameTo + (s.fresh ? " new;" : ";"));
        }
        for (Req r : st.asks)
            b.append("ask " + st.carriers.get(r.carrier) + " " + DAYS.get(r.day) + " " + r.hour
                    + (r.way == 0 ? " in " : " out ") + r.a + "-" + r.b + (r.by > 0 ? " by " + r.by + ";" : ";"));
        out = b.toString().getBytes(java.nio.charset.StandardCharsets.ISO_8859_1);
        return out.length;
    }

    int octet(int i) { return i < 0 || i >= out.length ? -1 : out[i]; }
}
