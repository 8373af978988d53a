import java.io.PrintWriter;
import java.io.StringWriter;
import java.lang.management.ManagementFactory;
import java.lang.reflect.Field;
import java.lang.reflect.Method;
import java.lang.reflect.Modifier;
import java.nio.charset.StandardCharsets;
import java.nio.file.Files;
import java.nio.file.Path;
import java.util.ArrayList;
import java.util.Arrays;
import java.util.HashSet;
import java.util.List;
import java.util.Map;
import java.util.Set;
import java.util.TreeMap;
import java.util.TreeSet;
import java.util.regex.Matcher;
import java.util.regex.Pattern;
import java.util.spi.ToolProvider;

/** What of LANGUAGE.md can be seen in the source, by reflection, and by what the calls make. */
public final class LanguageTest {
    private static final String SOURCE = "src/main/java/SlotSeries.java";
    private static final String MAKER = "<init>";
    private static final Set<String> LIBRARY = Set.of("java.lang.Object.<init>", "java.lang.String.length", "java.lang.String.charAt",
            "java.lang.Math.min", "java.lang.Math.max", "java.lang.Integer.bitCount");
    private static int wrong = 0;

    private static void must(boolean holds, String what) {
        if (!holds) {
            wrong++;
            System.out.println(what);
        }
    }

    public static void main(String[] args) throws Exception {
        String source = Files.readString(Path.of(SOURCE), StandardCharsets.ISO_8859_1);
        for (char sign : source.toCharArray()) must(sign == '\n' || sign >= 32 && sign < 127, "a sign that is not plain: " + (int) sign);
        String bare = withoutComments(source);
        face();
        inside();
        words(bare);
        methods(bare);
        bytecode();
        madeByCalls();
        System.out.println(wrong == 0 ? "the language is kept to" : wrong + " things outside the language");
        if (wrong > 0) System.exit(1);
    }

    /** Comments and the insides of texts and signs go; the lines stay. */
    private static String withoutComments(String s) {
        s = Pattern.compile("/\\*.*?\\*/", Pattern.DOTALL).matcher(s).replaceAll(m -> m.group().replaceAll("[^\\n]", ""));
        s = s.replaceAll("//[^\\n]*", "");
        s = s.replaceAll("\"[^\"\\n]*\"", "\"\"");
        return s.replaceAll("'(\\\\.|[^'\\n])'", "' '");
    }

    /** The face as the document lists it. */
    private static void face() throws Exception {
        List<String> lines = Files.readAllLines(Path.of("../shared/DOC.md"), StandardCharsets.UTF_8);
        Set<String> due = new TreeSet<>();
        for (String line : lines) {
            Matcher m = Pattern.compile("^    public int (\\w+)\\((.*)\\);$").matcher(line);
            if (m.matches()) due.add(m.group(1) + "/" + (m.group(2).isEmpty() ? 0 : m.group(2).split(",").length));
        }
        Set<String> is = new TreeSet<>();
        for (Method m : SlotSeries.class.getDeclaredMethods()) {
            if (Modifier.isPublic(m.getModifiers())) {
                is.add(m.getName() + "/" + m.getParameterCount());
                must(m.getReturnType() == int.class && !Modifier.isStatic(m.getModifiers()), "not as the document has it: " + m);
            } else {
                must(Modifier.isPrivate(m.getModifiers()), "neither public nor private: " + m);
            }
        }
        must(due.size() == 60 && due.equals(is), "the face is " + is + ", due is " + due);
        for (Field f : SlotSeries.class.getDeclaredFields()) {
            must(f.getName().equals("NONE") || Modifier.isPrivate(f.getModifiers()), "not private: " + f);
        }
        must(SlotSeries.class.getField("NONE").getInt(null) == -1, "NONE is not -1");
        must(SlotSeries.class.getDeclaredConstructors().length == 1 && SlotSeries.class.getConstructors().length == 1, "one public constructor is due");
        must(Modifier.isFinal(SlotSeries.class.getModifiers()), "the class is not final");
    }

    private static void inside() {
        Set<String> names = new HashSet<>();
        for (Method m : SlotSeries.class.getDeclaredMethods()) if (Modifier.isPublic(m.getModifiers())) names.add(m.getName());
        List<Class<?>> all = new ArrayList<>(List.of(SlotSeries.class.getDeclaredClasses()));
        must(all.size() <= 12, "more than twelve classes");
        for (Class<?> c : all) {
            must(Modifier.isStatic(c.getModifiers()) && !Modifier.isPublic(c.getModifiers()), c + " is not static, or public");
            for (Method m : c.getDeclaredMethods()) {
                must(!names.contains(m.getName()), "bears the name of a public one: " + m);
                must(!m.isSynthetic(), "synthetic: " + m);
            }
        }
        for (Method m : SlotSeries.class.getDeclaredMethods())
            must(Modifier.isPublic(m.getModifiers()) || !names.contains(m.getName()), "bears the name of a public one: " + m);
        all.add(SlotSeries.class);
        for (Class<?> c : all) {
            int own = 0;
            for (Field f : c.getDeclaredFields()) {
                if (Modifier.isStatic(f.getModifiers())) must(Modifier.isFinal(f.getModifiers()), "static and not final: " + f);
                else own++;
            }
            must(own <= 20, c + " has " + own + " fields");
            for (Method m : c.getDeclaredMethods()) must(m.getParameterCount() <= 7, "more than seven parameters: " + m);
        }
    }

    private static void words(String bare) {
        for (String word : List.of("throw", "throws", "try", "catch", "finally", "synchronized", "assert", "import", "package",
                "native", "volatile", "System", "Thread", "Object", "Random", "hashCode", "toString", "getClass", "double", "float",
                "protected", "enum", "record", "interface", "yield", "var"))
            must(!Pattern.compile("\\b" + word + "\\b").matcher(bare).find(), "outside the language: " + word);
        for (String sign : List.of("->", "::", "Exact", "@"))
            must(!bare.contains(sign), "outside the language: " + sign);
        must(!Pattern.compile("static\\s*\\{").matcher(bare).find(), "a static block");
        Matcher m = Pattern.compile("\\b([A-Z][a-z]\\w*)\\.(\\w+)").matcher(bare);
        while (m.find())
            must(List.of("Math.min", "Math.max", "Integer.bitCount").contains(m.group()), "the library: " + m.group());
    }

    private static void methods(String bare) {
        String[] lines = bare.split("\n");
        int from = -1;
        String indent = "";
        for (int i = 0; i < lines.length; i++) {
            Matcher m = Pattern.compile("^( +)(?!(if|for|while|switch|else|do|return)\\b)[\\w\\[\\] ]*\\w+\\([^;]*\\) \\{$").matcher(lines[i]);
            if (from < 0 && m.matches()) {
                from = i;
                indent = m.group(1);
            } else if (from >= 0 && lines[i].equals(indent + "}")) {
                must(i - from + 1 <= 60, "more than sixty lines: " + lines[from].trim());
                from = -1;
            }
        }
    }

    /** What javac makes of it: which calls it holds, how deep they go, and where something is made. */
    private static void bytecode() {
        Map<String, Set<String>> calls = new TreeMap<>();
        String type = "", method = "";
        for (String line : disassembled().split("\n")) {
            Matcher t = Pattern.compile("^[a-z ]*class (\\S+) .*").matcher(line);
            Matcher m = Pattern.compile("^  (?:[\\w$\\[\\]]+ )*([\\w$]+)\\(.*\\);").matcher(line);
            Matcher c = Pattern.compile(".* invoke\\w+ .*// Method (\\S+?):.*").matcher(line);
            if (t.matches()) {
                type = t.group(1);
            } else if (m.matches()) {
                method = type + "." + (m.group(1).equals(type) ? MAKER : m.group(1));
                calls.put(method, new TreeSet<>());
            } else if (c.matches()) {
                String called = c.group(1).replace('/', '.').replace("\"", "");
                calls.get(method).add(called.contains(".") ? called : type + "." + called);
            }
            must(!line.matches(" +\\d+: (athrow|monitorenter|invokedynamic|invokeinterface)\\b.*"), "in " + method + ": " + line.trim());
            must(!line.matches(" +\\d+: (new|newarray|anewarray|multianewarray) .*") || method.endsWith(MAKER), "made in " + method + ": " + line.trim());
        }
        must(calls.size() > 60, "only " + calls.size() + " methods were seen");
        for (String each : List.copyOf(calls.keySet())) deepFrom(each, calls, List.of());
    }

    private static String disassembled() {
        List<String> args = new ArrayList<>(List.of("-c", "-p", "-cp", System.getProperty("java.class.path"), SlotSeries.class.getName()));
        for (Class<?> c : SlotSeries.class.getDeclaredClasses()) args.add(c.getName());
        StringWriter out = new StringWriter();
        PrintWriter to = new PrintWriter(out);
        int failed = ToolProvider.findFirst("javap").orElseThrow().run(to, to, args.toArray(new String[0]));
        must(failed == 0, "javap failed: " + out);
        return out.toString();
    }

    /** No method calls itself, by way of others neither; at most eight stand open at once, the library's too. */
    private static void deepFrom(String method, Map<String, Set<String>> calls, List<String> open) {
        List<String> now = new ArrayList<>(open);
        now.add(method);
        must(!open.contains(method), "recursion: " + now);
        must(now.size() <= 8, "more than eight deep: " + now);
        must(calls.containsKey(method) || LIBRARY.contains(method), "the library: " + now);
        if (open.contains(method) || now.size() > 8) return;
        for (String next : calls.getOrDefault(method, Set.of())) deepFrom(next, calls, now);
    }

    private static SlotSeries x;

    /** Feeds without making anything: the bytes stand in the array already. */
    private static void tape(int[] words, int length) {
        for (int i = 0; i < words.length; i += 5) x.feed(words[i], words[i + 1], words[i + 2], words[i + 3], words[i + 4]);
        x.end(length);
    }

    private static int round(int[] words, int length, int[] name) {
        tape(words, length);
        int k = x.text();
        tape(name, 1);
        k += x.find() + x.count(1) + x.fault(0) + x.letter(0, 0) + x.first() + x.would() + x.helps(0) + x.turn(0) + x.granted(0);
        k += x.peak(1) + x.full(0) + x.idle(0) + x.fitting(0, 0, 0, 9) + x.fits(0) + x.where(0) + x.blocked(0) + x.clash(0, 1);
        k += x.best(0) + x.most(0, 0) + x.pairs(0, 0, 3) + x.kept(0) + x.common(0, 1) + x.movable(0) + x.partners(0) + x.tell() + x.octet(3);
        k += x.series(0, 0) + x.weeks(0, 0) + x.week(0, 0) + x.asked(0, 0) + x.limitOf(0, 0) + x.load(0, 0, 8, 0) + x.at(0, 0, 8, 0);
        k += x.room(0, 0, 8, 0) + x.use(0, 0) + x.stands(0) + x.spare(0) + x.of(0, 0) + x.entrant(0, 0) + x.sum(0, 0) + x.rate(0) + x.longest(0);
        k += x.miss(0, 1) + x.excuse(0, 1) + x.fly(0, 1) + x.back(0, 8) + x.gives(1, 0) + x.retime(0, 3) + x.swap(0, 1) + x.hand(0, 1);
        k += x.limit(8, 9, 9) + x.ask(0, 1000, 0, 4, 3) + x.pool() + x.drop(0) + x.undo();
        for (int i = 0; i < 12; i++) k += x.tick();
        return k + x.ends() + x.undo();
    }

    /** All is made in the constructor. */
    private static void madeByCalls() {
        byte[] b = ("weeks 10;limit 8 2 in 1;carrier a;carrier b;series a mon 8 in 0-9;series b mon 8 out 0-9;"
                + "ask a mon 8 in 0-9 by 3;ask b mon 9 in 0-9 by 3;ask b mon 8 in 0-9;").getBytes(StandardCharsets.ISO_8859_1);
        byte[] t = Arrays.copyOf(b, (b.length + 19) / 20 * 20);
        int[] words = new int[t.length / 4];
        for (int i = 0; i < t.length; i++) words[i / 4] = words[i / 4] << 8 | t[i];
        int[] name = {'a' << 24, 0, 0, 0, 0};
        com.sun.management.ThreadMXBean bean = (com.sun.management.ThreadMXBean) ManagementFactory.getThreadMXBean();
        long me = Thread.currentThread().getId();
        x = new SlotSeries();
        int k = 0;
        for (int i = 0; i < 50; i++) k += round(words, b.length, name);
        bean.getThreadAllocatedBytes(me);
        long ahead = bean.getThreadAllocatedBytes(me);
        for (int i = 0; i < 500; i++) k += round(words, b.length, name);
        long made = bean.getThreadAllocatedBytes(me) - ahead;
        // The measuring itself makes a little.
        must(made < 500, "500 rounds of calls made " + made + " bytes (" + k + ")");
        ahead = bean.getThreadAllocatedBytes(me);
        x = new SlotSeries();
        made = bean.getThreadAllocatedBytes(me) - ahead;
        must(made < 100_000, "the constructor made " + made + " bytes");
    }
}
