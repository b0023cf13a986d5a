import java.io.IOException;
import java.nio.file.Files;
import java.nio.file.Path;
import java.util.ArrayList;
import java.util.List;
import java.util.Map;
import java.util.TreeMap;
import java.util.regex.Matcher;
import java.util.regex.Pattern;
import java.util.stream.Stream;

/** Every word of the document is quoted by a test, and no method of a test that quotes is left out. */
public final class QuotedTest {
    private static final Pattern SAYS =
        Pattern.compile("Edge\\.says\\(\"([^\"]+)\",\\s*((?:\"(?:[^\"\\\\]|\\\\.)*\"(?:\\s*\\+\\s*)?)+)\\)");

    public static void main(String[] args) throws IOException {
        Map<String, List<String>> quoted = new TreeMap<>();
        List<Path> tests;
        try (Stream<Path> files = Files.list(Path.of("src/test/java"))) {
            tests = files.filter(f -> f.getFileName().toString().endsWith("Test.java")).sorted().toList();
        }
        for (Path test : tests) {
            String source = Files.readString(test);
            Matcher m = SAYS.matcher(source);
            int quotes = 0;
            while (m.find()) {
                quotes++;
                String words = m.group(2).replaceAll("\"\\s*\\+\\s*\"", "");
                quoted.computeIfAbsent(m.group(1), k -> new ArrayList<>()).add(words.substring(1, words.length() - 1));
            }
            if (quotes > 0) {
                called(test.getFileName().toString(), source);
            }
        }
        int parts = 0;
        for (String part : Files.readString(Path.of("../shared/DOC.md")).split("(?m)^(?===== |## |The constants)")) {
            parts++;
            wholly(part.replaceAll("\\s+", " ").trim(), quoted);
        }
        Due.is("parts of the document", 47, parts);
        Due.close();
    }

    private static String nameOf(String part) {
        Matcher terms = Pattern.compile("^==== (\\d)\\.").matcher(part);
        if (terms.find()) {
            return "Terms " + terms.group(1);
        }
        Matcher promise = Pattern.compile("^## (Promise \\d+):").matcher(part);
        if (promise.find()) {
            return promise.group(1);
        }
        for (String head : List.of("What it is", "The public face", "Terms", "Not promised")) {
            if (part.startsWith("## " + head)) {
                return head;
            }
        }
        return part;
    }

    private static void wholly(String part, Map<String, List<String>> quoted) {
        String name = nameOf(part);
        StringBuilder left = new StringBuilder(part);
        for (String words : quoted.getOrDefault(name, List.of())) {
            for (int at = part.indexOf(words); at >= 0; at = part.indexOf(words, at + 1)) {
                for (int p = at; p < at + words.length(); p++) {
                    left.setCharAt(p, ' ');
                }
            }
        }
        // Heads say nothing; the face and the constants are read from the document by FaceTest.
        String rest = left.toString().replaceAll("^# RingBars", "").replaceAll("^==== \\d\\.", "")
            .replaceAll("^## (Promise \\d+: (A new object|\\w+)|What it is|The public face|Terms|Not promised)", "")
            .replace("```text", "").replaceAll("^ ```java .*```$", "").replaceAll("^The constants: .*", "");
        String letters = rest.replaceAll("[^A-Za-z0-9]", "");
        Due.is(name + " is quoted wholly, but for '" + rest.replaceAll(" +", " ").trim() + "'", 0, letters.length());
    }

    /** Each method without arguments is called: none was written and forgotten. */
    private static void called(String test, String source) {
        Matcher m = Pattern.compile("private static void (\\w+)\\(\\)[^{]*\\{").matcher(source);
        while (m.find()) {
            Due.is(test + " calls " + m.group(1), true, source.contains(" " + m.group(1) + "();\n"));
        }
    }
}
