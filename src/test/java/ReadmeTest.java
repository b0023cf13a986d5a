import java.io.IOException;
import java.net.URL;
import java.net.URLClassLoader;
import java.nio.file.Files;
import java.nio.file.Path;
import java.util.ArrayList;
import java.util.List;
import java.util.regex.Matcher;
import java.util.regex.Pattern;
import javax.tools.ToolProvider;

/** The lines of README.md are compiled and done, and answer what they say. They touch all that the document begins with. */
public final class ReadmeTest {
    private static final Pattern ASKED = Pattern.compile("^(.+\\));\\s+// (-?\\d+|true|false)(: .*)?$");

    public static void main(String[] args) throws Exception {
        Edge.says("What it is", "Bars of wood that ring: rows of slices with thickness, grain, weight and wax, whose "
            + "three tones come of sums that laws tell as texts; shavings that are kept one by one, what each would take "
            + "off which tone, the pass by which a bar was lost; jobs told as texts; the fewest passes that bring all "
            + "tones to their goals and never past; grains found back from taps, and the next pass that would tell most; "
            + "still points and holes for cords; tubes whose stoppers move with heat, beats; drift by nights of heat and "
            + "wet, which tuning suits them; which law fits all taps; which blank for which note, where a lost bar may "
            + "go, how much wax brings it down; and an image, from which all goes on.");
        List<String> blocks = blocks(Files.readString(Path.of("README.md")));
        Due.is("blocks of Java", 2, blocks.size());
        Path folder = Files.createTempDirectory("readme");
        try {
            run(folder, source(blocks.get(0), blocks.get(1)));
        } finally {
            for (String made : List.of("Walk.java", "Walk.class")) {
                Files.deleteIfExists(folder.resolve(made));
            }
            Files.deleteIfExists(folder);
        }
        Due.close();
    }

    private static List<String> blocks(String readme) {
        List<String> found = new ArrayList<>();
        Matcher m = Pattern.compile("```java\\n(.*?)```", Pattern.DOTALL).matcher(readme);
        while (m.find()) {
            found.add(m.group(1));
        }
        return found;
    }

    /** Each line that ends with an answer becomes a question whether it is that. */
    private static String source(String helper, String walk) {
        StringBuilder source = new StringBuilder("public final class Walk {\n");
        source.append("private static final java.util.List<String> WRONG = new java.util.ArrayList<>();\n");
        source.append("private static void due(String call, Object want, Object got) {\n");
        source.append("if (!want.equals(got)) { WRONG.add(call + \" answered \" + got + \", due is \" + want); } }\n");
        source.append(helper).append("public static java.util.List<String> walk() {\n");
        int asked = 0;
        for (String line : walk.split("\n")) {
            Matcher m = ASKED.matcher(line);
            if (m.matches()) {
                asked++;
                source.append("due(\"").append(m.group(1).replace("\"", "\\\"")).append("\", ").append(m.group(2))
                    .append(", ").append(m.group(1)).append(");\n");
            } else {
                Due.is("a line that asks nothing: " + line, true,
                    line.isBlank() || line.startsWith("// ") || line.equals("RingBars x = new RingBars();"));
                source.append(line).append('\n');
            }
        }
        Due.is("lines that ask, " + asked, true, asked > 50);
        return source.append("return WRONG;\n}\n}\n").toString();
    }

    private static void run(Path folder, String source) throws IOException, ReflectiveOperationException {
        Path file = folder.resolve("Walk.java");
        Files.writeString(file, source);
        int compiled = ToolProvider.getSystemJavaCompiler().run(null, null, null, "-cp",
            System.getProperty("java.class.path"), "-d", folder.toString(), file.toString());
        Due.is("the lines compile", 0, compiled);
        if (compiled == 0) {
            try (URLClassLoader loader = new URLClassLoader(new URL[] {folder.toUri().toURL()})) {
                List<?> wrong = (List<?>) loader.loadClass("Walk").getMethod("walk").invoke(null);
                wrong.forEach(System.out::println);
                Due.is("answers that are not as README.md says", 0, wrong.size());
            }
        }
    }
}
