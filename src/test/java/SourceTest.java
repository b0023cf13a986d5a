import java.nio.file.Files;
import java.nio.file.Path;
import java.util.ArrayList;
import java.util.List;
import java.util.Set;
import java.util.TreeSet;
import java.util.regex.Matcher;
import java.util.regex.Pattern;

/** What of LANGUAGE.md can be seen in the source: words that must not stand, and how long and many things are. */
public final class SourceTest {
    private static final Pattern METHOD =
        Pattern.compile("(?m)^ +((?:public |private |static |final )*)[\\w\\[\\]]+ (\\w+)\\(([^)]*)\\) \\{$");
    private static final Pattern CLASS = Pattern.compile("(?m)^( *)(?:public|private) (?:static )?final class (\\w+) \\{$");

    public static void main(String[] args) throws Exception {
        String source = Files.readString(Path.of("src/main/java/RingBars.java"));
        String code = stripped(source);
        words(code);
        methods(code);
        classes(code);
        Due.close();
    }

    /** The source without comments and without what stands in quotes, lines kept. */
    private static String stripped(String source) {
        String code = Pattern.compile("/\\*.*?\\*/", Pattern.DOTALL).matcher(source)
            .replaceAll(m -> "\n".repeat((int) m.group().chars().filter(c -> c == '\n').count()));
        code = code.replaceAll("'(\\\\.|[^'\\\\])'", "0").replaceAll("\"[^\"\n]*\"", "\"\"");
        return code.replaceAll("//[^\n]*", "");
    }

    private static void words(String code) {
        for (String word : List.of("throw", "throws", "try", "catch", "finally", "synchronized", "assert", "protected",
                "record", "interface", "abstract", "native", "double", "float", "Object", "Thread", "Random", "Scanner",
                "equals", "hashCode", "toString", "\\w+Exact", "var", "volatile", "transient", "yield", "default ->")) {
            Due.is("the word " + word, false, Pattern.compile("\\b" + word + "\\b").matcher(code).find());
        }
        for (String sign : List.of("->", "::", "\" +", "+ \"", "static {", "@", "...", "[][][]")) {
            Due.is("the sign " + sign, false, code.contains(sign));
        }
        List<String> imports = new ArrayList<>();
        Matcher m = Pattern.compile("import ([^;]*);").matcher(code);
        while (m.find()) {
            imports.add(m.group(1));
        }
        Due.is("imports " + imports, true, Set.of("java.util.Arrays").containsAll(imports));
        m = Pattern.compile("Arrays\\.(\\w+)|System\\.(\\w+)|Math\\.(\\w+)").matcher(code);
        while (m.find()) {
            Due.is("library " + m.group(), true, Set.of("Arrays.fill", "System.arraycopy", "Math.abs", "Math.min",
                "Math.max").contains(m.group()));
        }
        m = Pattern.compile("(?m)^.*\\bstatic (?!final)(?!.*\\().*$").matcher(code);
        Due.is("static fields are final", false, m.find());
    }

    private static int endOf(String code, int open) {
        int depth = 0;
        for (int p = open; p < code.length(); p++) {
            depth += code.charAt(p) == '{' ? 1 : code.charAt(p) == '}' ? -1 : 0;
            if (depth == 0) {
                return p;
            }
        }
        return code.length();
    }

    private static void methods(String code) {
        Set<String> face = new TreeSet<>();
        Set<String> own = new TreeSet<>();
        Matcher m = METHOD.matcher(code);
        while (m.find()) {
            String name = m.group(2);
            (m.group(1).contains("public") ? face : own).add(name);
            String body = code.substring(m.start(), endOf(code, m.end() - 1));
            long lines = body.chars().filter(c -> c == '\n').count() + 1;
            Due.is("method " + name + " is short, " + lines, true, lines <= 60);
            int parameters = m.group(3).isBlank() ? 0 : m.group(3).split(",").length;
            Due.is("method " + name + " takes few, " + parameters, true, parameters <= 7);
        }
        Due.is("methods of the face", 35, face.size());
        Due.is("methods of our own were found", true, own.size() > 50);
        own.retainAll(face);
        Due.is("own methods named as public ones " + own, 0, own.size());
    }

    private static void classes(String code) {
        Matcher m = CLASS.matcher(code);
        int count = 0;
        while (m.find()) {
            count++;
            String body = code.substring(m.end(), endOf(code, m.end() - 1));
            String indent = m.group(1) + "    ";
            int fields = 0;
            Matcher f = Pattern.compile("(?m)^" + indent + "(?! )(?!.*static)[^(\n]*?\\w+( = [^;]*)?;$").matcher(body);
            while (f.find()) {
                fields++;
            }
            Due.is("class " + m.group(2) + " has few fields, " + fields, true, fields > 0 && fields <= 20);
        }
        Due.is("classes, " + count, true, count > 5 && count <= 12);
        Due.is("all classes were found", count, Pattern.compile("\\bclass \\w").matcher(code).results().count());
    }
}
