import java.nio.ByteBuffer;
import java.nio.charset.StandardCharsets;
import java.util.Arrays;

/** What the tests share: answers that are due, counted, and texts told to an object. */
final class Due {
    private static int asked = 0;
    private static int wrong = 0;

    private Due() {
    }

    static void is(String call, long want, long got) {
        asked++;
        if (got != want) {
            wrong++;
            System.out.println(call + " answered " + got + ", due is " + want);
        }
    }

    static void is(String call, boolean want, boolean got) {
        is(call, want ? 1 : 0, got ? 1 : 0);
    }

    /** Ends a test: exit code 1 if an answer was wrong. */
    static void close() {
        System.out.println(asked + " answers, " + wrong + " not as due");
        if (wrong != 0 || asked == 0) {
            System.exit(1);
        }
    }

    /** A text (characters 0 to 255) as the numbers that feed() takes, five a call. */
    static int[] numbers(String text) {
        byte[] bytes = text.getBytes(StandardCharsets.ISO_8859_1);
        byte[] whole = Arrays.copyOf(bytes, (bytes.length + 19) / 20 * 20);
        int[] numbers = new int[whole.length / 4];
        ByteBuffer.wrap(whole).asIntBuffer().get(numbers);
        return numbers;
    }

    /** Puts a text on the tape of an object whose tape is empty. */
    static void put(RingBars x, String text) {
        int[] n = numbers(text);
        for (int p = 0; p < n.length; p += 5) {
            x.feed(n[p], n[p + 1], n[p + 2], n[p + 3], n[p + 4]);
        }
        x.end(text.length());
    }

    static int law(RingBars x, int k, String text) {
        put(x, text);
        return x.text(0, k);
    }

    static int job(RingBars x, int k, String text) {
        put(x, text);
        return x.text(1, k);
    }

    /** A text must be refused with a fault at a place. */
    static void refused(RingBars x, int sort, String text, int fault, int place) {
        put(x, text);
        String call = "text(" + sort + ", 1) of " + text.replace('\n', '|');
        is(call, RingBars.NONE, x.text(sort, 1));
        is(call + ": fault(0)", fault, x.fault(0));
        is(call + ": fault(1)", place, x.fault(1));
    }

    /** A text must be taken, with so many lines. */
    static void taken(RingBars x, int sort, String text, int lines) {
        put(x, text);
        String call = "text(" + sort + ", 1) of " + text.replace('\n', '|');
        is(call, lines, x.text(sort, 1));
        is(call + ": fault(0)", 0, x.fault(0));
        is(call + ": fault(1)", RingBars.NONE, x.fault(1));
    }
}
