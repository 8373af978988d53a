import java.lang.reflect.Method;
import java.lang.reflect.Modifier;
import java.nio.charset.StandardCharsets;
import java.util.ArrayList;
import java.util.Arrays;
import java.util.HashMap;
import java.util.List;
import java.util.Map;
import java.util.Set;

/**
 * A run of calls on a new object, told line by line with the answers that are due:
 *
 * <pre>
 * text weeks 5;          a text() that is sound
 * faulty 2 6 weeks 4;    a text() that is refused: its FAULT, the place; all else must stay
 * tape ab                bytes that come behind the TAPE
 * back(0, 3) = -6 !      a call and its answer; with ! nothing that can be seen may have changed
 * back(0, 3) <> -2       a call that may answer anything but that
 * 5 x tick()             a call so many times, whatever it answers
 * told weeks 5;          tell() and each byte of OUT
 * </pre>
 *
 * In bytes \n, \\ and \xHH stand for what they stand for in Java. No object
 * has more than the 512 calls for which the document speaks: what is looked
 * at beside the run is looked at on other objects that had the same calls.
 */
final class Story {
    private static final int CALLS = 512;
    private static final Map<String, Method> FACE = face();
    private static final Set<String> CHANGING = Set.of("feed", "end", "text", "find", "miss", "excuse", "fly", "back", "gives", "tick",
            "pool", "retime", "swap", "hand", "limit", "ask", "drop", "ends", "undo", "tell");
    private static final List<Look> LOOKS = looks();
    private static int seen = 0, wrong = 0, stories = 0;

    /** One call. */
    private record Call(Method method, Object[] args) {
        int on(SlotSeries x) {
            try {
                return (Integer) method.invoke(x, args);
            } catch (ReflectiveOperationException e) {
                throw new IllegalStateException(this + " threw " + e.getCause(), e);
            }
        }

        @Override public String toString() {
            String list = Arrays.toString(args);
            return method.getName() + "(" + list.substring(1, list.length() - 1) + ")";
        }
    }

    /** Calls whose answers are looked at behind some that lead there. */
    private record Look(List<Call> lead, List<Call> calls) { }

    private final String title;
    private final SlotSeries x = new SlotSeries();
    private final List<Call> calls = new ArrayList<>();

    private Story(String title) { this.title = title; }

    /** The sentence of the document that it is about, and the run. */
    static void story(String sentence, String run) {
        stories++;
        Story s = new Story(sentence);
        try {
            for (String line : run.split("\n")) if (!line.isBlank()) s.line(line.strip());
            s.looksChangeNothing();
        } catch (RuntimeException e) {
            s.fail("fails: " + e.getMessage());
        }
    }

    /** To be called last of all. */
    static void finish(String name) {
        System.out.println(name + ": " + stories + " stories, " + seen + " things looked at, " + wrong + " wrong");
        if (wrong > 0) System.exit(1);
    }

    private void fail(String what) {
        wrong++;
        System.out.println(title + ": " + what);
    }

    private void due(String what, int got, int want) {
        seen++;
        if (got != want) fail(what + " answered " + got + ", due is " + want);
    }

    // ---- the lines

    private void line(String line) {
        if (line.startsWith("text ")) {
            putTape(bytes(line.substring(5)));
            int got = run(call("text()"));
            seen++;
            if (got <= 0) fail("text() answered " + got + " (" + x.fault(0) + " at " + x.fault(1) + "): " + line);
        } else if (line.startsWith("faulty ")) {
            String[] parts = line.split(" ", 4);
            faulty(Integer.parseInt(parts[1]), Integer.parseInt(parts[2]), parts.length > 3 ? parts[3] : "");
        } else if (line.startsWith("tape ")) {
            putTape(bytes(line.substring(5)));
        } else if (line.startsWith("told ")) {
            told(line.substring(5));
        } else if (line.matches("\\d+ x .*")) {
            String[] parts = line.split(" x ", 2);
            for (int i = Integer.parseInt(parts[0]); i > 0; i--) run(call(parts[1]));
        } else if (line.contains("<>")) {
            String[] parts = line.split("<>");
            Call c = call(parts[0].strip());
            int got = run(c);
            seen++;
            if (got == Integer.parseInt(parts[1].strip())) fail(c + " answered " + got);
        } else {
            answered(line);
        }
    }

    private void answered(String line) {
        String[] parts = line.split("=");
        if (parts.length != 2) throw new IllegalStateException("no such line: " + line);
        String answer = parts[1].strip();
        boolean refused = answer.endsWith("!");
        if (refused) answer = answer.substring(0, answer.length() - 1).strip();
        Call c = call(parts[0].strip());
        List<Call> ahead = new ArrayList<>(calls);
        // The TAPE is empty behind these, whatever they answer.
        if (c.method.getName().matches("find|text")) ahead.add(call("end(0)"));
        due(c.toString(), run(c), Integer.parseInt(answer));
        if (refused) same(c + ", refused,", ahead, calls, true);
    }

    private void faulty(int fault, int place, String text) {
        putTape(bytes(text));
        List<Call> ahead = new ArrayList<>(calls);
        ahead.add(call("end(0)"));
        due("text() of " + text, run(call("text()")), -4);
        due("fault(0) of " + text, run(call("fault(0)")), fault);
        due("fault(1) of " + text, run(call("fault(1)")), place);
        due("count(7) behind " + text, run(call("count(7)")), 0);
        same("text() of " + text + ", refused,", ahead, calls, false);
    }

    private void told(String text) {
        byte[] want = bytes(text);
        due("tell()", run(call("tell()")), want.length);
        List<Call> octets = new ArrayList<>();
        for (int i = -1; i <= want.length; i++) octets.add(call("octet(" + i + ")"));
        List<Integer> got = answers(calls, new Look(List.of(), octets));
        StringBuilder b = new StringBuilder();
        for (int i = 0; i < want.length; i++) b.append((char) (int) got.get(i + 1));
        seen++;
        if (!b.toString().equals(text)) fail("told is " + b + ", due is " + text);
        due("octet(-1)", got.get(0), -1);
        due("octet behind the last", got.get(want.length + 1), -1);
    }

    // ---- calls

    private static Map<String, Method> face() {
        Map<String, Method> all = new HashMap<>();
        for (Method m : SlotSeries.class.getDeclaredMethods()) if (Modifier.isPublic(m.getModifiers())) all.put(m.getName(), m);
        return all;
    }

    private static Call call(String told) {
        int open = told.indexOf('('), shut = told.lastIndexOf(')');
        if (open < 0 || shut != told.length() - 1) throw new IllegalStateException("no call: " + told);
        Method m = FACE.get(told.substring(0, open).strip());
        String inside = told.substring(open + 1, shut).strip();
        String[] parts = inside.isEmpty() ? new String[0] : inside.split(",");
        if (m == null || m.getParameterCount() != parts.length) throw new IllegalStateException("no such call: " + told);
        Object[] args = new Object[parts.length];
        for (int i = 0; i < args.length; i++) {
            String part = parts[i].strip();
            args[i] = part.equals("MAX") ? Integer.MAX_VALUE : part.equals("MIN") ? Integer.MIN_VALUE : (Object) Integer.valueOf(part);
        }
        return new Call(m, args);
    }

    private int run(Call c) {
        if (calls.size() == CALLS) throw new IllegalStateException("more than 512 calls");
        calls.add(c);
        return c.on(x);
    }

    private void putTape(byte[] bytes) {
        int had = run(call("count(7)"));
        byte[] all = Arrays.copyOf(bytes, (bytes.length + 19) / 20 * 20);
        for (int i = 0; i < all.length; i += 20) {
            int[] v = new int[5];
            for (int k = 0; k < 20; k++) v[k / 4] = v[k / 4] << 8 | all[i + k] & 255;
            int has = run(call("feed(" + v[0] + "," + v[1] + "," + v[2] + "," + v[3] + "," + v[4] + ")"));
            if (has != had + i + 20) throw new IllegalStateException("the TAPE has no room for the test");
        }
        run(call("end(" + (had + bytes.length) + ")"));
    }

    private static byte[] bytes(String told) {
        StringBuilder b = new StringBuilder();
        for (int i = 0; i < told.length(); i++) {
            char sign = told.charAt(i);
            if (sign != '\\') {
                b.append(sign);
            } else if (told.charAt(i + 1) == 'x') {
                b.append((char) Integer.parseInt(told.substring(i + 2, i + 4), 16));
                i += 3;
            } else {
                i++;
                b.append(told.charAt(i) == 'n' ? '\n' : told.charAt(i));
            }
        }
        return b.toString().getBytes(StandardCharsets.ISO_8859_1);
    }

    // ---- whether anything changed

    /** The queries of the run must have left no trace; a run that has used up its calls is not looked at. */
    private void looksChangeNothing() {
        if (calls.size() > CALLS - 20) return;
        List<Call> acts = new ArrayList<>();
        for (Call c : calls) if (CHANGING.contains(c.method.getName())) acts.add(c);
        if (acts.size() < calls.size()) same("a query of the run", acts, calls, true);
    }

    private void same(String what, List<Call> ahead, List<Call> behind, boolean withFault) {
        seen++;
        for (Look look : LOOKS) {
            if (!withFault && look.calls.get(0).method.getName().equals("fault")) continue;
            List<Integer> was = answers(ahead, look), is = answers(behind, look);
            for (int i = 0; i < was.size(); i++) {
                if (!was.get(i).equals(is.get(i))) {
                    fail(what + " changed " + (i < look.lead.size() ? look.lead.get(i) : look.calls.get(i - look.lead.size()))
                            + " behind " + look.lead + " from " + was.get(i) + " to " + is.get(i));
                    return;
                }
            }
        }
    }

    /** Of objects that had the same calls: as many as it takes, for none has more than 512. */
    private static List<Integer> answers(List<Call> ahead, Look look) {
        List<Integer> got = new ArrayList<>();
        int room = CALLS - ahead.size() - look.lead.size();
        if (room <= 0) throw new IllegalStateException("no calls left to look with");
        for (int from = 0; from < look.calls.size(); from += room) {
            SlotSeries y = new SlotSeries();
            for (Call c : ahead) c.on(y);
            for (Call c : look.lead) {
                int answer = c.on(y);
                if (from == 0) got.add(answer);
            }
            for (int i = from; i < Math.min(from + room, look.calls.size()); i++) got.add(look.calls.get(i).on(y));
        }
        return got;
    }

    private static void each(List<Call> to, String name, int... bounds) {
        int total = 1;
        for (int b : bounds) total *= b;
        for (int k = 0; k < total; k++) {
            StringBuilder args = new StringBuilder();
            int left = k;
            for (int b : bounds) {
                args.append(args.length() > 0 ? "," : "").append(left % b);
                left /= b;
            }
            to.add(call(name + "(" + args + ")"));
        }
    }

    /** What stands: all that acts can change. */
    private static List<Call> standing() {
        List<Call> l = new ArrayList<>();
        each(l, "count", 8);
        each(l, "series", 24, 6);
        each(l, "weeks", 24, 5);
        each(l, "asked", 24, 7);
        each(l, "limitOf", 24, 2);
        return l;
    }

    private static List<Look> looks() {
        List<Look> all = new ArrayList<>();
        all.add(new Look(List.of(), List.of(call("fault(0)"), call("fault(1)"))));
        List<Call> more = standing();
        each(more, "letter", 8, 6);
        for (String name : List.of("first()", "would()", "helps(0)", "helps(1)", "kept(0)", "kept(1)", "peak(0)", "peak(1)")) more.add(call(name));
        each(more, "granted", 24);
        each(more, "turn", 24);
        each(more, "movable", 24);
        each(more, "partners", 24);
        all.add(new Look(List.of(), more));
        List<Call> octets = new ArrayList<>();
        each(octets, "octet", 400);
        all.add(new Look(List.of(), octets));
        all.add(new Look(List.of(call("tell()")), octets));
        all.add(new Look(List.of(), List.of(call("find()"), call("count(7)"))));
        all.add(new Look(List.of(call("text()"), call("fault(0)"), call("fault(1)")), standing()));
        List<Call> undos = new ArrayList<>();
        for (int k = 0; k < 11; k++) {
            undos.add(call("undo()"));
            all.add(new Look(List.copyOf(undos), standing()));
        }
        return all;
    }
}
