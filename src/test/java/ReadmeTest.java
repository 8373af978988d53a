import java.io.StringWriter;
import java.lang.reflect.Method;
import java.lang.reflect.Modifier;
import java.net.URL;
import java.net.URLClassLoader;
import java.nio.charset.StandardCharsets;
import java.nio.file.Files;
import java.nio.file.Path;
import java.util.ArrayList;
import java.util.Comparator;
import java.util.List;
import java.util.Set;
import java.util.TreeSet;
import java.util.regex.Matcher;
import java.util.regex.Pattern;
import java.util.stream.Stream;
import javax.tools.JavaCompiler;
import javax.tools.ToolProvider;

/**
 * README.md is there; the calls that it shows answer as it says; it names each
 * call of the face and each test. Its java blocks are put together into one
 * program: those with a static method are its methods, the others, one behind
 * the other, are what it does. A line of them that calls the class ends with
 * the answer: // 3, // 0b101, // NONE, // "a text", and words behind it.
 */
public final class ReadmeTest {
    private static final Pattern SHOWN = Pattern.compile("^\\s*((?:x\\.|told\\().*\\));\\s*// (-?\\d+|0b[01]+|NONE|\".*\")(?:\\b|[ ,:]|$).*$");
    private static int seen = 0, wrong = 0;

    private static void must(boolean holds, String what) {
        seen++;
        if (!holds) {
            wrong++;
            System.out.println("README.md: " + what);
        }
    }

    /** Called by the program made of the README. */
    public static void due(String line, Object got, Object want) {
        must(got.equals(want), line + " answered " + got);
    }

    public static void main(String[] args) throws Exception {
        Path readme = Path.of("README.md");
        must(Files.isRegularFile(readme), "it is not there");
        if (wrong == 0) {
            String text = Files.readString(readme, StandardCharsets.UTF_8);
            calls(text);
            tests(text);
            program(blocks(text, "java"));
            List<String> stories = blocks(text, "story");
            must(!stories.isEmpty(), "it shows no story");
            for (String run : stories) Story.story("README.md", run);
        }
        System.out.println("README.md: " + seen + " things looked at, " + wrong + " wrong");
        if (wrong > 0) System.exit(1);
        Story.finish("README.md");
    }

    /** What stands in fences of that kind. */
    private static List<String> blocks(String text, String kind) {
        List<String> all = new ArrayList<>();
        Matcher m = Pattern.compile("^```" + kind + "\\n(.*?)^```$", Pattern.DOTALL | Pattern.MULTILINE).matcher(text);
        while (m.find()) all.add(m.group(1));
        return all;
    }

    /** Each call of the face stands in it, with as many arguments as it takes. */
    private static void calls(String text) {
        for (Method m : SlotSeries.class.getDeclaredMethods()) {
            if (!Modifier.isPublic(m.getModifiers())) continue;
            String args = "\\w+(, \\w+){" + (m.getParameterCount() - 1) + "}";
            String call = "`" + m.getName() + "\\(" + (m.getParameterCount() == 0 ? "" : args) + "\\)`";
            must(Pattern.compile(call).matcher(text).find(), "it does not tell of " + m.getName() + "()");
        }
    }

    /** Each test stands in it, and what it says is one is there; so is what runs them. */
    private static void tests(String text) throws Exception {
        must(text.contains(".ci/run") && Files.isExecutable(Path.of(".ci/run")), "it does not say how its tests are run");
        Set<String> told = new TreeSet<>(), are = new TreeSet<>();
        Matcher m = Pattern.compile("`(\\w+Test)`").matcher(text);
        while (m.find()) told.add(m.group(1));
        try (Stream<Path> files = Files.list(Path.of("src/test/java"))) {
            files.map(f -> f.getFileName().toString()).filter(f -> f.endsWith("Test.java")).forEach(f -> are.add(f.replace(".java", "")));
        }
        must(told.equals(are), "it tells of the tests " + told + ", there are " + are);
    }

    private static void program(List<String> blocks) throws Exception {
        StringBuilder methods = new StringBuilder(), run = new StringBuilder();
        int shown = 0;
        for (String block : blocks) {
            if (Pattern.compile("^static ", Pattern.MULTILINE).matcher(block).find()) {
                methods.append(block);
                continue;
            }
            for (String line : block.split("\n")) {
                Matcher m = SHOWN.matcher(line);
                if (m.matches()) {
                    shown++;
                    String want = m.group(2).equals("NONE") ? "SlotSeries.NONE" : m.group(2);
                    run.append("ReadmeTest.due(" + quoted(line.strip()) + ", " + m.group(1) + ", " + want + ");\n");
                } else {
                    must(!line.strip().matches("(x\\.|told\\().*"), "no answer is told: " + line.strip());
                    run.append(line + "\n");
                }
            }
        }
        must(shown > 0, "it shows no calls");
        compileAndRun("public final class ReadmeProgram {\n" + methods + "public static void run() {\n" + run + "}\n}\n");
    }

    private static String quoted(String s) { return "\"" + s.replace("\\", "\\\\").replace("\"", "\\\"") + "\""; }

    private static void compileAndRun(String source) throws Exception {
        Path dir = Files.createTempDirectory("readme");
        try {
            Path file = Files.writeString(dir.resolve("ReadmeProgram.java"), source);
            JavaCompiler javac = ToolProvider.getSystemJavaCompiler();
            StringWriter said = new StringWriter();
            try (var files = javac.getStandardFileManager(null, null, StandardCharsets.UTF_8)) {
                List<String> options = List.of("-cp", System.getProperty("java.class.path"), "-d", dir.toString());
                boolean sound = javac.getTask(said, files, null, options, null, files.getJavaFileObjects(file)).call();
                must(sound, "what it shows does not compile: " + said);
                if (!sound) return;
            }
            try (URLClassLoader loader = new URLClassLoader(new URL[] {dir.toUri().toURL()})) {
                loader.loadClass("ReadmeProgram").getMethod("run").invoke(null);
            }
        } finally {
            try (Stream<Path> all = Files.walk(dir)) {
                for (Path p : all.sorted(Comparator.reverseOrder()).toList()) Files.delete(p);
            }
        }
    }
}
