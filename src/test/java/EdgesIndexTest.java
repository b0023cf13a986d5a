import java.io.IOException;
import java.nio.file.Files;
import java.nio.file.Path;
import java.util.List;
import java.util.Set;
import java.util.TreeSet;
import java.util.regex.Matcher;
import java.util.regex.Pattern;
import java.util.stream.Stream;

/** Each part of the document that names boundaries is quoted by a test of boundaries, and each such test is run. */
public final class EdgesIndexTest {
    public static void main(String[] args) throws IOException {
        Set<String> quoted = new TreeSet<>();
        List<Path> tests;
        try (Stream<Path> files = Files.list(Path.of("src/test/java"))) {
            tests = files.filter(f -> f.getFileName().toString().matches("EdgesOf\\w+Test\\.java")).sorted().toList();
        }
        for (Path test : tests) {
            String source = Files.readString(test);
            Matcher m = Pattern.compile("Edge\\.says\\(\"([^\"]+)\", \"").matcher(source);
            while (m.find()) {
                quoted.add(m.group(1));
            }
            called(test.getFileName().toString(), source);
        }
        Due.is("tests of boundaries", true, tests.size() > 10);
        for (int part = 1; part <= 5; part++) {
            Due.is("Terms " + part + " is quoted", true, quoted.contains("Terms " + part));
        }
        for (int promise = 1; promise <= 36; promise++) {
            Due.is("Promise " + promise + " is quoted", true, quoted.contains("Promise " + promise));
        }
        Due.close();
    }

    /** Each method without arguments is called: none was written and forgotten. */
    private static void called(String test, String source) {
        Matcher m = Pattern.compile("private static void (\\w+)\\(\\) \\{").matcher(source);
        while (m.find()) {
            Due.is(test + " calls " + m.group(1), true, source.contains("        " + m.group(1) + "();\n"));
        }
    }
}
