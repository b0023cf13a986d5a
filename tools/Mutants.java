import java.io.File;
import java.io.IOException;
import java.io.OutputStream;
import java.io.PrintStream;
import java.io.StringWriter;
import java.lang.reflect.InvocationTargetException;
import java.net.URI;
import java.net.URL;
import java.net.URLClassLoader;
import java.nio.file.Files;
import java.nio.file.Path;
import java.security.Permission;
import java.util.ArrayList;
import java.util.Arrays;
import java.util.List;
import java.util.concurrent.ExecutorService;
import java.util.concurrent.Executors;
import java.util.concurrent.Future;
import java.util.regex.Matcher;
import java.util.regex.Pattern;
import javax.tools.JavaCompiler;
import javax.tools.SimpleJavaFileObject;
import javax.tools.ToolProvider;

/**
 * Changes RingBars.java in one place at a time and tells which changes no test finds.
 * Arguments: the source, the directory of the tests' classes (without RingBars), the names of the tests; a name may
 * bring arguments of its own, as RandomRunsTest:1000:500. With -Donly=FILE only changes that FILE tells are tried, with
 * -Dseconds=N each test has so long before it counts as one that found the change (by not ending).
 */
@SuppressWarnings({"deprecation", "removal"})
public final class Mutants {
    private static final String[][] SWAPS = {{" < ", " <= "}, {" < ", " >= "}, {" <= ", " < "}, {" <= ", " > "},
        {" > ", " >= "}, {" > ", " <= "}, {" >= ", " > "}, {" >= ", " < "}, {" == ", " != "}, {" != ", " == "},
        {" && ", " || "}, {" || ", " && "}, {" + ", " - "}, {" - ", " + "}, {" * ", " + "}, {" / ", " * "}, {" % ", " / "},
        {"Math.max(", "Math.min("}, {"Math.min(", "Math.max("}, {"Math.abs(", "("}, {"++;", "--;"}, {" += ", " -= "},
        {" -= ", " += "}, {"return true;", "return false;"}, {"return false;", "return true;"}, {" | ", " & "}, {" & ", " | "}};
    private static final String[][] NAMES = {{"thick", "wax"}, {"wax", "thick"}, {"grain", "heavy"}, {"heavy", "grain"},
        {"first", "second"}, {"second", "first"}, {"firstHole", "secondHole"}, {"secondHole", "firstHole"}, {"bend", "mass"},
        {"mass", "bend"}, {"nightHeat", "nightWet"}, {"nightWet", "nightHeat"}, {"heat", "wet"}, {"wet", "heat"},
        {"tapThick", "tapWax"}, {"tapWax", "tapThick"}, {"low", "high"}, {"high", "top"}, {"bends", "masses"},
        {"masses", "bends"}, {"isLost", "isTrue"}, {"isTrue", "isLost"}, {"noteCount", "blankCount"}};
    private static final String THREAD = "test";
    private static final long LONGEST = 1000L * Integer.getInteger("seconds", 20);

    private record Mutant(int line, String was, String now, String source) {
        String told() {
            return line + ": " + was + "  ->  " + now;
        }
    }

    private static final class Ended extends SecurityException {
        private static final long serialVersionUID = 1L;
        final int code;

        Ended(int code) {
            this.code = code;
        }
    }

    private static final class Text extends SimpleJavaFileObject {
        private final String text;

        Text(String text) {
            super(URI.create("string:///RingBars.java"), Kind.SOURCE);
            this.text = text;
        }

        @Override
        public CharSequence getCharContent(boolean ignoreErrors) {
            return text;
        }
    }

    private final String source;
    /** The source with comments, texts and signs in quotes blotted out. */
    private final String code;
    private final List<Mutant> all = new ArrayList<>();

    private Mutants(String source) {
        this.source = source;
        this.code = blotted(source);
    }

    public static void main(String[] args) throws Exception {
        PrintStream out = System.out;
        quiet();
        Mutants mutants = new Mutants(Files.readString(Path.of(args[0])));
        mutants.makeAll();
        mutants.keepOnly(System.getProperty("only", ""));
        URL tests = Path.of(args[1]).toUri().toURL();
        List<String> names = Arrays.asList(args).subList(2, args.length);
        ExecutorService pool = Executors.newFixedThreadPool(Runtime.getRuntime().availableProcessors());
        List<Future<String>> ends = new ArrayList<>();
        for (Mutant m : mutants.all) {
            ends.add(pool.submit(() -> endOf(m, tests, names)));
        }
        int left = 0;
        for (int i = 0; i < ends.size(); i++) {
            if (ends.get(i).get() == null) {
                left++;
                out.println(mutants.all.get(i).told());
            }
        }
        out.println(ends.size() + " mutants, " + left + " that no test finds");
        Runtime.getRuntime().halt(0);
    }

    /** Tests print and exit; both must not be heard here. */
    private static void quiet() {
        System.setOut(new PrintStream(OutputStream.nullOutputStream()));
        System.setErr(new PrintStream(OutputStream.nullOutputStream()));
        System.setSecurityManager(new SecurityManager() {
            @Override
            public void checkPermission(Permission permission) {
            }

            @Override
            public void checkExit(int status) {
                if (Thread.currentThread().getName().equals(THREAD)) {
                    throw new Ended(status);
                }
            }
        });
    }

    private static String blotted(String source) {
        StringBuilder code = new StringBuilder(source);
        Matcher m = Pattern.compile("/\\*.*?\\*/|//[^\n]*|\"[^\"\n]*\"|'(\\\\.|[^'\\\\])'", Pattern.DOTALL).matcher(source);
        while (m.find()) {
            for (int p = m.start(); p < m.end(); p++) {
                code.setCharAt(p, code.charAt(p) == '\n' ? '\n' : '#');
            }
        }
        return code.toString();
    }

    private void add(int at, String was, String now) {
        int line = (int) source.substring(0, at).chars().filter(c -> c == '\n').count() + 1;
        all.add(new Mutant(line, was.trim(), now.trim(), source.substring(0, at) + now + source.substring(at + was.length())));
    }

    private void makeAll() {
        for (String[] swap : SWAPS) {
            for (int p = code.indexOf(swap[0]); p >= 0; p = code.indexOf(swap[0], p + 1)) {
                add(p, swap[0], swap[1]);
            }
        }
        for (String[] name : NAMES) {
            each("(?<!\\w)" + name[0] + "(?!\\w)", name[1]);
        }
        Matcher number = Pattern.compile("(?<![\\w.])\\d+(?![\\w.])").matcher(code);
        while (number.find()) {
            long v = Long.parseLong(number.group());
            add(number.start(), number.group(), "" + (v + 1));
            add(number.start(), number.group(), "(" + (v - 1) + ")");
        }
        Matcher when = Pattern.compile("(?m)(?<=if \\()([^\n]*)(?=\\) \\{$)").matcher(code);
        while (when.find()) {
            String asked = source.substring(when.start(), when.end());
            add(when.start(), asked, "1 > 2 && (" + asked + ")");
            add(when.start(), asked, "1 < 2 || (" + asked + ")");
        }
        each("(?<![\\w.])[A-Z][A-Z_]+(?![\\w(])", "($0 + 1)");
        each("(?<![\\w.])[A-Z][A-Z_]+(?![\\w(])", "($0 - 1)");
        each("(?m)^ {8,}(?!return|int |boolean |long |for |while |case )[\\w.\\[\\]]+(\\(| [-+]?= |\\+\\+|--)[^\n{}]*;$", "");
    }

    private void each(String pattern, String now) {
        Matcher m = Pattern.compile(pattern).matcher(code);
        while (m.find()) {
            String line = code.substring(code.lastIndexOf('\n', m.start()) + 1, code.indexOf('\n', m.start()));
            if (!line.contains("private ") && !line.contains("public ") && !line.contains("case ")) {
                add(m.start(), source.substring(m.start(), m.end()), now.replace("$0", m.group()));
            }
        }
    }

    private void keepOnly(String file) throws IOException {
        if (!file.isEmpty()) {
            List<String> told = Files.readAllLines(Path.of(file));
            all.removeIf(m -> !told.contains(m.told()));
        }
    }

    /** By what a mutant was found; null if by nothing. */
    private static String endOf(Mutant m, URL tests, List<String> names) throws Exception {
        Path dir = Files.createTempDirectory("mutant");
        JavaCompiler compiler = ToolProvider.getSystemJavaCompiler();
        boolean compiles = compiler.getTask(new StringWriter(), null, d -> { }, List.of("-nowarn", "-d", dir.toString()), null,
            List.of(new Text(m.source))).call();
        String end = compiles ? null : "the compiler";
        for (int t = 0; t < names.size() && end == null; t++) {
            end = run(names.get(t), new URL[] {dir.toUri().toURL(), tests}) ? null : names.get(t);
        }
        delete(dir);
        return end;
    }

    private static boolean run(String test, URL[] classes) throws Exception {
        boolean[] passed = {false};
        try (URLClassLoader loader = new URLClassLoader(classes, ClassLoader.getPlatformClassLoader())) {
            Thread thread = new Thread(() -> passed[0] = passes(loader, test), THREAD);
            thread.setDaemon(true);
            thread.start();
            thread.join(LONGEST);
            if (thread.isAlive()) {
                thread.stop();
            }
        }
        return passed[0];
    }

    private static boolean passes(ClassLoader loader, String test) {
        try {
            String[] words = test.split(":");
            String[] told = Arrays.copyOfRange(words, 1, words.length);
            loader.loadClass(words[0]).getMethod("main", String[].class).invoke(null, (Object) told);
            return true;
        } catch (InvocationTargetException e) {
            return e.getCause() instanceof Ended ended && ended.code == 0;
        } catch (ReflectiveOperationException e) {
            return false;
        }
    }

    private static void delete(Path dir) throws IOException {
        for (File file : dir.toFile().listFiles()) {
            Files.delete(file.toPath());
        }
        Files.delete(dir);
    }
}
