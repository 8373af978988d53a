import java.util.ArrayList;
import java.util.List;

/**
 * The bounds of each argument of each call, on both sides: the last that is
 * allowed is not answered with -2, the first that is not is; -2 comes ahead of
 * NONE, -5 and -6, and an act that is answered so changes nothing.
 */
public final class RangesTest {
    /** Each call with its arguments: s SERIES, a ASK, c CARRIER, w WEEK, d DAY, h HOUR, n DAY or NONE, k from 0 on, 0..x. */
    private static final String[] QUERIES = {
        "letter c 0..5", "series s 0..5", "weeks s 0..4", "week s w", "asked a 0..6", "limitOf h 0..1", "load w d h 0..2", "at w d h k",
        "room w d h 0..1", "use s 0..1", "stands s", "spare s", "of c n", "entrant c d", "sum c 0..4", "best k", "peak 0..1", "full d",
        "fitting d 0..1 w w", "fits a", "where a", "blocked a", "helps 0..1", "kept 0..1", "common s s", "idle d", "turn a", "granted a",
        "clash a a", "rate s", "longest s", "movable s", "partners s", "pairs c d 0..23", "most d k"};
    private static final String[] ACTS = {
        "miss s w", "excuse s w", "fly s w", "back s w", "gives c d", "retime s h", "swap s s", "hand s c", "limit h 0..9 0..0", "drop a"};

    /** A TEXT, what was called behind it, and what there is of each. */
    private record State(String name, String run, int weeks, int carriers, int series, int asks) { }

    private static final String MID = "text weeks 12;limit 5 2 in 1;carrier a;carrier b;carrier c;series a mon 5 in 0-11;series b mon 5 out 2-8;series b tue 6 in 0-4 new;series c sun 23 out 7-11;"
            + "ask a mon 5 in 0-11 by 2;ask c sun 0 out 3-9;ask b wed 7 in 0-4;\n";

    public static void main(String[] args) {
        for (State s : states()) {
            for (String q : QUERIES) query(s, q);
            for (String q : ACTS) act(s, q);
            if (s.carriers > 0) asks(s);
            limits(s);
            spans(s);
        }
        withoutText();
        aheadOfOthers();
        Story.finish("RangesTest");
    }

    private static List<State> states() {
        List<State> l = new ArrayList<>();
        l.add(new State("the least", "text weeks 5;\n", 5, 0, 0, 0));
        l.add(new State("one of each", "text weeks 5;carrier a;series a mon 0 in 0-4;ask a mon 0 in 0-4;\n", 5, 1, 1, 1));
        l.add(new State("some", MID, 12, 3, 4, 3));
        l.add(new State("some, a week in", MID + "tick() = 1\n", 12, 3, 4, 3));
        l.add(new State("some, the season over", MID + "12 x tick()\n", 12, 3, 4, 3));
        StringBuilder b = new StringBuilder("text weeks30;");
        for (int i = 0; i < 8; i++) b.append("carrier " + (char) ('a' + i) + ";");
        for (int i = 0; i < 24; i++) b.append("series " + (char) ('a' + i % 8) + " mon" + i + "in0-29;");
        for (int i = 0; i < 24; i++) b.append("ask h mon" + i + "in0-9;");
        l.add(new State("all", b + "\n", 30, 8, 24, 24));
        return l;
    }

    private static int[] bounds(State s, String kind) {
        switch (kind) {
            case "s": return new int[] {0, s.series - 1};
            case "a": return new int[] {0, s.asks - 1};
            case "c": return new int[] {0, s.carriers - 1};
            case "w": return new int[] {0, s.weeks - 1};
            case "d": return new int[] {0, 6};
            case "h": return new int[] {0, 23};
            case "n": return new int[] {-1, 6};
            case "k": return new int[] {0, Integer.MAX_VALUE};
            default: return new int[] {0, Integer.parseInt(kind.substring(3))};
        }
    }

    private static String call(String name, String[] args) { return name + "(" + String.join(", ", args) + ")"; }

    /** With one argument at an end of its bounds, or outside; the others are the least allowed. */
    private static List<String> calls(State s, String told, boolean allowed) {
        String[] parts = told.split(" ");
        List<String> l = new ArrayList<>();
        boolean none = false;
        for (int i = 1; i < parts.length; i++) none |= bounds(s, parts[i])[1] < bounds(s, parts[i])[0];
        if (none && allowed) return l;
        for (int i = 1; i < parts.length; i++) {
            int[] own = bounds(s, parts[i]);
            int[] tried = allowed ? new int[] {own[0], own[1]}
                    : own[1] == Integer.MAX_VALUE ? new int[] {own[0] - 1, Integer.MIN_VALUE}
                    : new int[] {own[0] - 1, own[1] + 1, own[1] + 2, 32 + own[1], Integer.MIN_VALUE, Integer.MAX_VALUE};
            for (int t : tried) {
                String[] args = new String[parts.length - 1];
                for (int k = 0; k < args.length; k++) args[k] = String.valueOf(bounds(s, parts[k + 1])[0]);
                args[i - 1] = String.valueOf(t);
                // fitting's second WEEK is no lower than the first.
                if (parts[0].equals("fitting") && i == 3 && allowed) args[3] = String.valueOf(s.weeks - 1);
                l.add(call(parts[0], args));
            }
        }
        return l;
    }

    private static void query(State s, String told) {
        StringBuilder run = new StringBuilder(s.run);
        for (String c : calls(s, told, true)) run.append(c + " <> -2\n");
        for (String c : calls(s, told, false)) run.append(c + " = -2\n");
        Story.story("IV: -2 of " + told + ", " + s.name, run.toString());
    }

    private static void act(State s, String told) {
        for (String c : calls(s, told, true)) Story.story("IV: not -2 of " + told + ", " + s.name, s.run + c + " <> -2\n");
        StringBuilder run = new StringBuilder(s.run);
        for (String c : calls(s, told, false)) run.append(c + " = -2 !\n");
        Story.story("IV: -2 of " + told + ", " + s.name, run.toString());
    }

    private static void asks(State s) {
        int last = s.weeks - 1;
        String full = s.asks == 24 ? " = -5 !\n" : " = " + (s.asks + 1) + "\nundo() <> -1\n";
        StringBuilder run = new StringBuilder(s.run);
        for (int key : new int[] {0, 1, 230, 231, 10, 6000, 6231, 6001})
            run.append("ask(0, " + key + ", 0, 4, 0)" + full);
        for (String rest : new String[] {"0, 4, 0", "0, 4, 9", "0, " + last + ", 0", (last - 4) + ", " + last + ", 0"}) {
            run.append("ask(0, 0, " + rest + ")" + full);
            run.append("ask(" + (s.carriers - 1) + ", 0, " + rest + ")" + full);
        }
        Story.story("47: the ends of what is allowed, " + s.name, run.toString());
        run = new StringBuilder(s.run);
        for (String key : new String[] {"-1", "2", "9", "232", "240", "241", "990", "999", "6232", "6240", "7000", "7001", "10000", "-10", "-1000", "MIN", "MAX"})
            run.append("ask(0, " + key + ", 0, 4, 0) = -2 !\n");
        Story.story("47: key 1000 times the DAY, 10 times the HOUR, and the WAY, " + s.name, run.toString());
        run = new StringBuilder(s.run);
        for (String rest : new String[] {"-1, 4, 0", "-1, 3, 0", "0, 3, 0", "1, 4, 0", "4, 0, 0", "0, " + (last + 1) + ", 0", (last - 3) + ", " + last + ", 0", (last - 3) + ", " + (last + 1) + ", 0",
                (last + 1) + ", " + (last + 5) + ", 0", "0, 4, -1", "0, 4, 10", "MIN, MAX, 0", "0, MAX, 0", "MIN, 4, 0", "MAX, MIN, 0", "0, 4, MAX", "0, 4, MIN"})
            run.append("ask(0, 0, " + rest + ") = -2 !\n");
        for (String c : new String[] {"-1", String.valueOf(s.carriers), "8", "MIN", "MAX"}) run.append("ask(" + c + ", 0, 0, 4, 0) = -2 !\n");
        Story.story("47: as a LINE tells, " + s.name, run.toString());
    }

    private static void limits(State s) {
        StringBuilder run = new StringBuilder(s.run);
        for (String rest : new String[] {"-1, 0", "-1, -1", "10, 0", "10, 10", "0, 1", "9, 10", "5, 6", "5, -1", "MIN, 0", "MAX, 0", "5, MIN", "5, MAX", "MAX, MAX"}) {
            run.append("limit(0, " + rest + ") = -2 !\n");
            run.append("limit(23, " + rest + ") = -2\n");
        }
        Story.story("46: n (0 .. 9), m (0 .. n), outside, " + s.name, run.toString());
        for (String rest : new String[] {"9, 9", "9, 0", "5, 5", "0, 0"}) {
            Story.story("46: n (0 .. 9), m (0 .. n), the ends, " + s.name, s.run + "limit(0, " + rest + ") <> -2\n");
            Story.story("46: n (0 .. 9), m (0 .. n), the ends, " + s.name, s.run + "limit(23, " + rest + ") <> -2\n");
        }
    }

    private static void spans(State s) {
        int last = s.weeks - 1;
        Story.story("26: -2 (b below a, too), " + s.name, s.run + "fitting(0, 0, " + last + ", " + last + ") <> -2\nfitting(0, 0, 0, 0) <> -2\nfitting(6, 1, 0, " + last + ") <> -2\n"
                + "fitting(0, 0, 1, 0) = -2\nfitting(0, 0, " + last + ", " + (last - 1) + ") = -2\nfitting(0, 0, " + last + ", 0) = -2\nfitting(0, 0, " + last + ", " + (last + 1) + ") = -2\n"
                + "fitting(0, 0, " + (last + 1) + ", " + (last + 1) + ") = -2\nfitting(0, 0, -1, -1) = -2\nfitting(0, 0, -1, 0) = -2\nfitting(0, 0, MIN, MAX) = -2\n");
    }

    private static void withoutText() {
        StringBuilder run = new StringBuilder("tape ab\n");
        State s = new State("no TEXT", "", 12, 3, 4, 3);
        List<String> all = new ArrayList<>();
        for (String q : QUERIES) all.addAll(calls(s, q, true));
        for (String c : all) run.append(c + " = -2\n");
        Story.story("IV: -2 of all, without a TEXT: queries", run + "count(7) = 2\nfind() = -2\n");
        all.clear();
        run = new StringBuilder("tape ab\n");
        for (String q : ACTS) all.addAll(calls(s, q, true));
        all.addAll(List.of("tick()", "pool()", "ends()", "tell()", "limit(0, 4, 4)", "limit(0, 0, 0)", "ask(0, 0, 0, 4, 0)", "ask(0, 6231, 0, 4, 9)"));
        for (String c : all) run.append(c + " = -2 !\n");
        run.append("first() = -2\nwould() = -2\nundo() = -1 !\ncount(7) = 2\n");
        Story.story("IV: -2 of all, without a TEXT: acts", run.toString());
        Story.story("IV: -2 of all, behind a TEXT that was refused", "faulty 1 9 weeks 12 limit\nlimitOf(0, 0) = -2\nidle(0) = -2\ntick() = -2 !\npeak(0) = -2\nkept(0) = -2\n");
    }

    private static void aheadOfOthers() {
        Story.story("IV: -2 ahead of NONE", MID + """
            week(1, 0) = -1
            week(1, 12) = -2
            week(4, 0) = -2
            at(0, 6, 0, 0) = -1
            at(0, 6, 0, -1) = -2
            at(12, 6, 0, 0) = -2
            at(0, 7, 0, 0) = -2
            at(0, 6, 24, 0) = -2
            best(3) = -1
            best(-1) = -2
            most(0, 3) = -1
            most(7, 3) = -2
            most(0, -1) = -2
            12 x tick()
            tick() = -1 !
            peak(0) = -1
            peak(2) = -2
            peak(-1) = -2
            fits(0) = -1
            fits(3) = -2
            where(0) = -1
            where(3) = -2
            granted(0) = -1
            granted(3) = -2
            spare(4) = -2
            rate(4) = -2
            """);
        Story.story("IV: -2 ahead of -5", MID + """
            swap(2, 0) = -5 !
            swap(2, 4) = -2 !
            swap(4, 2) = -2 !
            swap(2, -1) = -2 !
            swap(-1, 2) = -2 !
            hand(2, 0) = -5 !
            hand(2, 3) = -2 !
            hand(2, -1) = -2 !
            """);
        Story.story("IV: -2 ahead of -6", MID + """
            miss(1, 0) = -6 !
            miss(1, 12) = -2 !
            excuse(1, 0) = -6 !
            excuse(1, 12) = -2 !
            fly(1, 2) = -6 !
            fly(1, 12) = -2 !
            back(0, 3) = -6 !
            back(0, -1) = -2 !
            back(4, 3) = -2 !
            retime(0, 5) = -6 !
            retime(0, 24) = -2 !
            retime(4, 5) = -2 !
            limit(5, 1, 1) = -6 !
            limit(5, 0, 1) = -2 !
            limit(24, 0, 0) = -2 !
            swap(1, 1) = -6 !
            swap(1, 4) = -2 !
            hand(0, 0) = -6 !
            hand(0, 3) = -2 !
            ends() = -6 !
            12 x tick()
            retime(0, 6) = -6 !
            retime(0, 24) = -2 !
            back(0, 11) = -6 !
            back(0, 12) = -2 !
            """);
    }
}
