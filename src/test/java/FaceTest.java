import java.io.IOException;
import java.lang.reflect.Constructor;
import java.lang.reflect.Field;
import java.lang.reflect.Method;
import java.lang.reflect.Modifier;
import java.nio.file.Files;
import java.nio.file.Path;
import java.util.ArrayList;
import java.util.List;
import java.util.Set;
import java.util.TreeSet;
import java.util.regex.Matcher;
import java.util.regex.Pattern;

/** The public face is the document's, with nothing beside it, and each promise is of one of its members. */
public final class FaceTest {
    private static final Class<RingBars> FACE = RingBars.class;

    public static void main(String[] args) throws Exception {
        String document = Files.readString(Path.of("../shared/DOC.md"));
        same("the face", toldFace(document), ownFace());
        same("the promises", toldPromises(document), ownMethodsAndConstructors());
        Edge.says("The public face", "public final class RingBars {");
        Due.is("the class is public and final, " + Modifier.toString(FACE.getModifiers()), true,
            FACE.getModifiers() == (Modifier.PUBLIC | Modifier.FINAL));
        Due.is("it is of no other class than Object", true, FACE.getSuperclass() == Object.class);
        Due.is("it has no interfaces", 0, FACE.getInterfaces().length);
        Due.is("it is in no package", true, FACE.getPackageName().isEmpty());
        Due.is("it takes no types", 0, FACE.getTypeParameters().length);
        nothingBeside();
        constants(document);
        oneFile();
        Due.close();
    }

    private static void same(String what, Set<String> told, Set<String> own) {
        Set<String> missing = new TreeSet<>(told);
        missing.removeAll(own);
        Set<String> more = new TreeSet<>(own);
        more.removeAll(told);
        Due.is(what + ": told but not there " + missing, 0, missing.size());
        Due.is(what + ": there but not told " + more, 0, more.size());
        Due.is(what + ": something is told", true, told.size() > 30);
    }

    /** Parameters without their names, for these are free. */
    private static String bare(String signature) {
        return signature.replaceAll("\\b(int|boolean) \\w+(?=[,)])", "$1");
    }

    private static Set<String> toldFace(String document) {
        Matcher block = Pattern.compile("## The public face\\s+```java\\n(.*?)```", Pattern.DOTALL).matcher(document);
        Set<String> told = new TreeSet<>();
        if (block.find()) {
            for (String line : block.group(1).split("\n")) {
                if (line.endsWith(";")) {
                    told.add(bare(line.trim().replace(" = -1", "").replace(";", "")));
                }
            }
        }
        return told;
    }

    private static Set<String> toldPromises(String document) {
        Set<String> told = new TreeSet<>();
        Matcher m = Pattern.compile("## Promise (\\d+): ([\\w ]+)\\n\\n`([^`]+)`: ").matcher(document);
        int number = 0;
        while (m.find()) {
            number++;
            Due.is("the promises are numbered one by one", number, Integer.parseInt(m.group(1)));
            String name = m.group(3).replaceAll("\\(.*", "").replaceAll(".* ", "");
            Due.is("promise " + number + " tells of what it is headed with", true,
                m.group(2).equals(name) || number == 1 && name.equals("RingBars"));
            told.add("public " + bare(m.group(3)));
        }
        Due.is("promises", 36, number);
        return told;
    }

    private static String told(int modifiers, String type, String name, Class<?>[] parameters) {
        List<String> types = new ArrayList<>();
        for (Class<?> parameter : parameters) {
            types.add(parameter.getSimpleName());
        }
        return Modifier.toString(modifiers) + " " + type + name + "(" + String.join(", ", types) + ")";
    }

    private static Set<String> ownMethodsAndConstructors() {
        Set<String> own = new TreeSet<>();
        for (Method m : FACE.getDeclaredMethods()) {
            if (!Modifier.isPrivate(m.getModifiers())) {
                own.add(told(m.getModifiers(), m.getReturnType().getSimpleName() + " ", m.getName(),
                    m.getParameterTypes()));
            }
        }
        for (Constructor<?> c : FACE.getDeclaredConstructors()) {
            own.add(told(c.getModifiers(), "", "RingBars", c.getParameterTypes()));
        }
        return own;
    }

    private static Set<String> ownFace() {
        Set<String> own = ownMethodsAndConstructors();
        for (Field f : FACE.getDeclaredFields()) {
            if (!Modifier.isPrivate(f.getModifiers())) {
                own.add(Modifier.toString(f.getModifiers()) + " " + f.getType().getSimpleName() + " " + f.getName());
            }
        }
        return own;
    }

    private static void nothingBeside() {
        for (Class<?> inside : FACE.getDeclaredClasses()) {
            String name = inside.getSimpleName();
            Due.is(name + " is static", true, Modifier.isStatic(inside.getModifiers()));
            Due.is(name + " is seen by none outside", false,
                Modifier.isPublic(inside.getModifiers()) || Modifier.isProtected(inside.getModifiers()));
            Due.is(name + " has no class inside", 0, inside.getDeclaredClasses().length);
        }
        for (Method m : FACE.getMethods()) {
            Due.is(m.getName() + " is the class's own or Object's", true,
                m.getDeclaringClass() == FACE || m.getDeclaringClass() == Object.class);
        }
        for (Method m : FACE.getDeclaredMethods()) {
            Due.is(m.getName() + " throws nothing", 0, m.getExceptionTypes().length);
        }
    }

    private static void constants(String document) {
        Due.is("the constants are told so", true, document.contains("The constants: `NONE = -1`: None.\n"));
        Due.is("NONE", -1, RingBars.NONE);
    }

    /** All that is compiled of the class comes of its one file, which holds no second class beside it. */
    private static void oneFile() throws IOException {
        String source = Files.readString(Path.of("src/main/java/RingBars.java"));
        Due.is("classes that are not inside another", 1,
            Pattern.compile("(?m)^(?:[a-z]+ )*(?:class|interface|enum|record) ").matcher(source).results().count());
        Due.is("no package line", false, Pattern.compile("(?m)^package\\b").matcher(source).find());
        try (var files = Files.walk(Path.of("src/main"))) {
            Due.is("files of the program", 1, files.filter(Files::isRegularFile).count());
        }
    }
}
