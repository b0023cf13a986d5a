import java.lang.reflect.Method;
import java.lang.reflect.Modifier;
import java.util.Arrays;
import java.util.Comparator;
import java.util.List;
import java.util.Random;

/** Any calls with any arguments, edges and far beyond them: none throws, and each answers as PlainBars does. */
public final class AnyCallsTest {
    private static final int[] EDGES = {0, 0, 0, 0, 1, 1, 1, 2, 2, 3, 3, 4, 5, 7, 8, 9, 10, 11, 14, 15, 16, 17, 20, 50, 51,
        98, 99, 100, 200, 201, 500, 501, 9999, 10000, 99999, 100000, 999999, 1000000, 9999999, 10000000, -1, -1, -2, -3,
        -20, -21, -100000, Integer.MAX_VALUE, Integer.MAX_VALUE - 1, Integer.MIN_VALUE, Integer.MIN_VALUE + 1};
    private static final String[] TEXTS = {
        "bend 0 thick*grain+wax;mass 0 heavy;bend 1 thick;mass 1 1;sway 0 mid-2;drift heat-wet;",
        "bend 0 99999;mass 0 1 when at=0;drift 0-9999;", "bend 0 99999*thick*thick*at/7;mass 0 65536*at;",
        "arc 0 15 9;arc 0 15 9;arc 3 9 4;shave 1 1;wax 2 7;", "shave 0 1 when low>high or passes<9;wax 15 99;"};

    public static void main(String[] args) throws Exception {
        Method[] methods = RingBars.class.getDeclaredMethods();
        List<Method> face = Arrays.stream(methods).filter(m -> Modifier.isPublic(m.getModifiers()))
            .sorted(Comparator.comparing(Method::getName)).toList();
        for (int seed = 0; seed < 400; seed++) {
            Due.is("calls of seed " + seed, 0, wrong(face, new Random(seed)));
        }
        Due.close();
    }

    private static int wrong(List<Method> face, Random random) throws Exception {
        RingBars ring = new RingBars();
        PlainBars plain = new PlainBars();
        for (int calls = 0; calls < 300; calls++) {
            Method m = face.get(random.nextInt(face.size()));
            if (calls < 6) {
                tell(ring, plain, random);
                m = RingBars.class.getMethod("bar", int.class);
            }
            Object[] arguments = new Object[m.getParameterCount()];
            for (int a = 0; a < arguments.length; a++) {
                boolean flag = m.getParameterTypes()[a] == boolean.class;
                arguments[a] = flag ? (Object) random.nextBoolean() : (Object) EDGES[random.nextInt(EDGES.length)];
            }
            Object got = m.invoke(ring, arguments);
            Object want = PlainBars.class.getMethod(m.getName(), m.getParameterTypes()).invoke(plain, arguments);
            if (!got.equals(want)) {
                System.out.println(m.getName() + Arrays.toString(arguments) + " answered " + got + ", due is " + want);
                return 1;
            }
        }
        return 0;
    }

    private static void tell(RingBars ring, PlainBars plain, Random random) {
        int which = random.nextInt(TEXTS.length);
        int[] n = Due.numbers(TEXTS[which]);
        for (int p = 0; p < n.length; p += 5) {
            ring.feed(n[p], n[p + 1], n[p + 2], n[p + 3], n[p + 4]);
            plain.feed(n[p], n[p + 1], n[p + 2], n[p + 3], n[p + 4]);
        }
        ring.end(TEXTS[which].length());
        plain.end(TEXTS[which].length());
        int sort = which < 3 ? 0 : 1;
        int k = random.nextInt(2);
        Due.is("lines of " + TEXTS[which], plain.text(sort, k), ring.text(sort, k));
    }
}
