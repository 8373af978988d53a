import java.lang.reflect.Method;
import java.lang.reflect.Modifier;
import java.nio.charset.StandardCharsets;
import java.util.ArrayList;
import java.util.Arrays;
import java.util.Comparator;
import java.util.List;
import java.util.Random;

/**
 * Random runs of calls, each held against Model: many short and long runs with
 * texts that are sound, and texts with something wrong in them. The seeds are
 * fixed; arguments: [runs] [first seed] to look further by hand.
 */
public final class FuzzTest {
    private static final int CALLS = 512;
    private static final Method[] FACE = face();
    private static final Method[] TOLD = told();
    private static final List<String> TEXT_CALLS = List.of("feed", "end", "text", "find");
    private static final String[] NAMES = {"a", "b", "zz", "abcdef", "q", "newt", "mona", "k", "weekly", "in"};

    private static Method[] face() {
        Method[] all = SlotSeries.class.getDeclaredMethods();
        List<Method> l = new ArrayList<>();
        for (Method m : all) if (Modifier.isPublic(m.getModifiers())) l.add(m);
        l.sort(Comparator.comparing(Method::getName));
        return l.toArray(new Method[0]);
    }

    private static Method[] told() {
        Method[] t = new Method[FACE.length];
        try {
            for (int i = 0; i < t.length; i++) t[i] = Model.class.getDeclaredMethod(FACE[i].getName(), FACE[i].getParameterTypes());
        } catch (NoSuchMethodException e) {
            throw new IllegalStateException(e);
        }
        return t;
    }

    private final Random r;
    private final SlotSeries x = new SlotSeries();
    private final Model y = new Model();
    private final List<String> log = new ArrayList<>();
    private int calls = 0;
    private boolean wrong = false;

    private FuzzTest(long seed) { r = new Random(seed); }

    private int both(int i, int... args) {
        if (wrong || calls >= CALLS) return 0;
        calls++;
        Object[] boxed = new Object[args.length];
        for (int k = 0; k < args.length; k++) boxed[k] = args[k];
        try {
            int got = (Integer) FACE[i].invoke(x, boxed);
            int due = (Integer) TOLD[i].invoke(y, boxed);
            log.add(FACE[i].getName() + Arrays.toString(args) + " = " + got);
            if (got != due) {
                wrong = true;
                log.add("   the model says " + due);
            }
            return due;
        } catch (ReflectiveOperationException e) {
            wrong = true;
            log.add(FACE[i].getName() + Arrays.toString(args) + " threw " + e.getCause());
            return 0;
        }
    }

    private int both(String name, int... args) {
        for (int i = 0; i < FACE.length; i++) if (FACE[i].getName().equals(name)) return both(i, args);
        throw new IllegalStateException(name);
    }

    private void putTape(byte[] b) {
        byte[] t = Arrays.copyOf(b, (b.length + 19) / 20 * 20);
        for (int i = 0; i < t.length; i += 20) {
            int[] v = new int[5];
            for (int k = 0; k < 20; k++) v[k / 4] = v[k / 4] << 8 | t[i + k] & 255;
            both("feed", v);
        }
        both("end", b.length);
    }

    private String pick(String... s) { return s[r.nextInt(s.length)]; }

    // A small world, so that series meet; few days and hours, low limits.
    private int day = 0, hour = 8, hours = 2;

    private int someDay() { return r.nextInt(4) == 0 ? r.nextInt(7) : day; }
    private int someHour() { return r.nextInt(5) == 0 ? r.nextInt(24) : Math.min(23, hour + r.nextInt(hours)); }

    private String text() {
        int n = 5 + (r.nextInt(3) == 0 ? r.nextInt(26) : r.nextInt(6));
        day = r.nextInt(7);
        hour = r.nextInt(24);
        hours = 1 + r.nextInt(4);
        StringBuilder b = new StringBuilder("weeks " + n + ";");
        int limits = r.nextInt(5), told = 0;
        for (int i = 0; i < limits; i++) {
            int h = someHour();
            if ((told >> h & 1) != 0) continue;
            told |= 1 << h;
            int k = r.nextInt(r.nextInt(3) == 0 ? 10 : 4);
            b.append("limit " + h + " " + k + " in " + (k - r.nextInt(Math.min(k, 2) + 1)) + ";");
        }
        int cs = r.nextInt(8) == 0 ? 0 : 1 + r.nextInt(r.nextInt(3) == 0 ? 8 : 3);
        for (int i = 0; i < cs; i++) b.append("carrier " + NAMES[i] + ";");
        if (cs == 0) return b.toString();
        int ss = r.nextInt(4) == 0 ? r.nextInt(26) : r.nextInt(9);
        for (int i = 0; i < ss; i++) {
            String line = "series " + line(cs, n) + pick("", "", "", " new") + ";";
            // A series that does not fit is mostly left out, or few texts would stand.
            if (r.nextInt(20) == 0 || stands(b + line)) b.append(line);
        }
        int as = r.nextInt(4) == 0 ? r.nextInt(26) : r.nextInt(9);
        for (int i = 0; i < as; i++)
            b.append("ask " + line(cs, n) + (r.nextBoolean() ? " by " + r.nextInt(r.nextBoolean() ? 3 : 10) : "") + ";");
        return b.toString();
    }

    private static boolean stands(String text) {
        Model m = new Model();
        m.tape = text.getBytes(StandardCharsets.ISO_8859_1);
        return m.text() > 0;
    }

    private String line(int cs, int n) {
        int a = r.nextInt(3) == 0 ? 0 : r.nextInt(n - 4);
        int z = r.nextInt(3) == 0 ? n - 1 : a + 4 + r.nextInt(n - a - 4);
        return NAMES[r.nextInt(cs)] + " " + Model.DAYS.get(someDay()) + " " + someHour() + pick(" in ", " out ") + a + "-" + z;
    }

    private byte[] spoilt(String text) {
        StringBuilder b = new StringBuilder(text);
        int times = r.nextInt(3);
        for (int i = 0; i < times && b.length() > 0; i++) {
            int at = r.nextInt(b.length());
            switch (r.nextInt(5)) {
                case 0: b.deleteCharAt(at); break;
                case 1: b.insert(at, pick(" ", "\n", "0", "9", ";", "-", "a", "z", "in", "\u00e9", "B", "x", "\t", "\u0000")); break;
                case 2: b.setCharAt(at, pick("0", "1", "2", "5", "9", ";", "-", "a", "n", " ").charAt(0)); break;
                case 3: b.setLength(at); break;
                default: b.insert(at, pick("limit 3 4 in 4;", "carrier xy;", "carrier a;", "weeks 9;", "new", "by 3", "00000000000000000000000000004", "99999999999")); break;
            }
        }
        byte[] all = b.toString().getBytes(StandardCharsets.ISO_8859_1);
        return all.length > 1200 ? Arrays.copyOf(all, 1200) : all;
    }

    private void newText() {
        String t = text();
        byte[] b = r.nextInt(4) == 0 ? spoilt(t) : t.getBytes(StandardCharsets.ISO_8859_1);
        if (b.length > 1200) b = Arrays.copyOf(b, t.lastIndexOf(';', 1199) + 1);
        both("end", 0);
        putTape(b);
        both("text");
        both("fault", 0);
        both("fault", 1);
    }

    private int wild() {
        int[] w = {-1, -2, 0, 1, 2, 3, 5, 6, 7, 9, 10, 24, 30, 31, 32, 100, -100, Integer.MAX_VALUE, Integer.MIN_VALUE, 33, 64};
        return w[r.nextInt(w.length)];
    }

    private int below(int n) { return r.nextInt(Math.max(1, n)); }

    private void anyCall() {
        int i = r.nextInt(FACE.length);
        String m = FACE[i].getName();
        if (TEXT_CALLS.contains(m)) {
            if (r.nextInt(3) != 0) return;
            if (m.equals("text") || m.equals("find")) {
                both("end", 0);
                putTape(pick("a", "b", "zz", "abcdef", "abcdefg", "q ", "weeks", "", "A", "a\n", "ab1").getBytes(StandardCharsets.ISO_8859_1));
                both("find");
                return;
            }
        }
        Model.State s = y.st;
        int ser = s == null ? 0 : s.series.size(), as = s == null ? 0 : s.asks.size(), cs = s == null ? 0 : s.carriers.size(), n = s == null ? 0 : s.n;
        int[] a;
        switch (m) {
            case "feed": a = new int[] {r.nextInt(), r.nextInt(), wild(), wild(), r.nextInt()}; break;
            case "end": a = new int[] {r.nextInt(40)}; break;
            case "letter": a = new int[] {below(cs), r.nextInt(6)}; break;
            case "series": a = new int[] {below(ser), r.nextInt(6)}; break;
            case "weeks": a = new int[] {below(ser), r.nextInt(5)}; break;
            case "week": case "miss": case "excuse": case "fly": a = new int[] {below(ser), below(n)}; break;
            case "back": a = new int[] {below(ser), s == null ? 0 : s.now + r.nextInt(8)}; break;
            case "asked": a = new int[] {below(as), r.nextInt(7)}; break;
            case "limitOf": a = new int[] {someHour(), r.nextInt(2)}; break;
            case "load": a = new int[] {below(n), someDay(), someHour(), r.nextInt(3)}; break;
            case "at": a = new int[] {below(n), someDay(), someHour(), r.nextInt(4)}; break;
            case "room": a = new int[] {below(n), someDay(), someHour(), r.nextInt(2)}; break;
            case "use": a = new int[] {below(ser), r.nextInt(2)}; break;
            case "of": a = new int[] {below(cs), r.nextBoolean() ? -1 : someDay()}; break;
            case "entrant": case "gives": a = new int[] {below(cs), someDay()}; break;
            case "sum": a = new int[] {below(cs), r.nextInt(5)}; break;
            case "best": a = new int[] {r.nextInt(5)}; break;
            case "peak": case "helps": case "kept": a = new int[] {r.nextInt(2)}; break;
            case "full": case "idle": a = new int[] {someDay()}; break;
            case "fitting": { int f = below(n); a = new int[] {someDay(), r.nextInt(2), f, f + below(n - f)}; break; }
            case "fits": case "where": case "blocked": case "turn": case "granted": a = new int[] {below(as)}; break;
            case "drop": if (r.nextBoolean()) return; a = new int[] {below(as)}; break;
            case "clash": a = new int[] {below(as), below(as)}; break;
            case "common": case "swap": a = new int[] {below(ser), below(ser)}; break;
            case "stands": case "spare": case "rate": case "longest": case "movable": case "partners": a = new int[] {below(ser)}; break;
            case "retime": a = new int[] {below(ser), someHour()}; break;
            case "hand": a = new int[] {below(ser), below(cs)}; break;
            case "limit": { int k = r.nextInt(5); a = new int[] {someHour(), k, r.nextInt(k + 1)}; break; }
            case "ask": { int f = below(n - 4); a = new int[] {below(cs), 1000 * someDay() + 10 * someHour() + r.nextInt(2), f, f + 4 + below(n - f - 4), r.nextInt(10)}; break; }
            case "pairs": a = new int[] {below(cs), someDay(), r.nextInt(24)}; break;
            case "most": a = new int[] {someDay(), r.nextInt(4)}; break;
            case "count": a = new int[] {r.nextInt(8)}; break;
            case "fault": a = new int[] {r.nextInt(2)}; break;
            case "octet": a = new int[] {r.nextInt(60)}; break;
            default: a = new int[FACE[i].getParameterCount()];
        }
        if (a.length > 0 && r.nextInt(8) == 0) a[r.nextInt(a.length)] = wild();
        both(i, a);
    }

    /** All that can be seen of the object. */
    private void lookOver() {
        for (int k = -1; k < 9; k++) both("count", k);
        int told = both("tell");
        for (int i = 0; i < told && i < 200; i++) both("octet", told - 1 - i);
        Model.State s = y.st;
        if (s == null) return;
        for (int i = 0; i < s.series.size(); i++) {
            for (int k = 0; k < 5; k++) both("weeks", i, k);
            both("partners", i);
            both("movable", i);
        }
        for (int i = 0; i < s.asks.size(); i++) {
            both("turn", i);
            both("granted", i);
            both("blocked", i);
        }
    }

    private boolean run() {
        if (r.nextInt(5) == 0) for (int i = 0; i < 10; i++) anyCall();
        newText();
        int style = r.nextInt(4);
        while (calls < CALLS - 120 && !wrong) {
            int p = r.nextInt(100);
            if (p < 1) newText();
            else if (p < 8 && style > 0) both("tick");
            else if (p < 12 && style == 2) for (int k = r.nextInt(12); k >= 0; k--) both("tick");
            else if (p < 14) both("ends");
            else if (p < 17) both("undo");
            else if (p < 18 && style == 3) for (int k = 0; k < 12; k++) both("undo");
            else anyCall();
        }
        lookOver();
        return !wrong;
    }

    public static void main(String[] args) {
        int runs = args.length > 0 ? Integer.parseInt(args[0]) : 4000;
        long from = args.length > 1 ? Long.parseLong(args[1]) : 1;
        if (FACE.length != 60) {
            System.out.println("the face has " + FACE.length + " methods, not 60");
            System.exit(1);
        }
        int bad = 0;
        for (long seed = from; seed < from + runs && bad < 3; seed++) {
            FuzzTest t = new FuzzTest(seed);
            if (!t.run()) {
                bad++;
                System.out.println("seed " + seed + ":");
                for (String line : t.log.subList(Math.max(0, t.log.size() - 30), t.log.size())) System.out.println("  " + line);
            }
        }
        System.out.println(runs + " random runs, " + bad + " with a wrong answer");
        if (bad > 0) System.exit(1);
    }
}
