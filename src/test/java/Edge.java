import java.io.IOException;
import java.io.UncheckedIOException;
import java.nio.file.Files;
import java.nio.file.Path;
import java.util.ArrayList;
import java.util.List;
import java.util.function.Consumer;
import java.util.function.Predicate;
import java.util.function.ToIntFunction;

/** What the tests of boundaries share: the document's sentences, and refused calls that must leave all as it was. */
final class Edge {
    private static final String[] PARTS = documentParts();

    private Edge() {
    }

    private static String[] documentParts() {
        try {
            String document = Files.readString(Path.of("../shared/DOC.md"));
            return document.split("(?m)^(?===== |## |The constants)");
        } catch (IOException e) {
            throw new UncheckedIOException(e);
        }
    }

    private static String plain(String text) {
        return text.replaceAll("\\s+", " ").trim();
    }

    /** "Terms 2", "Promise 17" or another part by its head as it stands in the document, blanks made one. */
    private static String partOf(String name) {
        for (String part : PARTS) {
            String head = part.lines().findFirst().orElse("");
            boolean found = name.startsWith("Terms ") ? head.startsWith("==== " + name.substring(6) + ".")
                : head.equals("## " + name) || head.startsWith("## " + name + ":");
            if (found) {
                return plain(part);
            }
        }
        return "";
    }

    /** Begins the test of a sentence, whose words must stand in that part of the document. */
    static void says(String part, String words) {
        Due.is(part + " says: " + words, true, partOf(part).contains(plain(words)));
    }

    /** A call on an object on which all has been told must be refused, and leave all as it was. */
    static void refused(String call, int want, ToIntFunction<RingBars> asked) {
        refused(call, want, x -> { }, asked);
    }

    /** The same, when more has been told. */
    static void refused(String call, int want, Consumer<RingBars> more, ToIntFunction<RingBars> asked) {
        RingBars x = told();
        more.accept(x);
        Due.is(call, want, asked.applyAsInt(x));
        RingBars untouched = told();
        more.accept(untouched);
        same(call + " changes nothing", seen(untouched), seen(x));
    }

    static void denied(String call, Predicate<RingBars> asked) {
        refused(call, 0, x -> asked.test(x) ? 1 : 0);
    }

    static void denied(String call, Consumer<RingBars> more, Predicate<RingBars> asked) {
        refused(call, 0, more, x -> asked.test(x) ? 1 : 0);
    }

    private static void same(String then, List<String> want, List<String> got) {
        String unlike = "";
        for (int i = 0; i < want.size() && unlike.isEmpty(); i++) {
            unlike = want.get(i).equals(got.get(i)) ? "" : want.get(i) + ", not " + got.get(i);
        }
        Due.is(then + (unlike.isEmpty() ? "" : ": " + unlike), true, unlike.isEmpty());
    }

    /** An object on which something of every sort has been told; its tape holds half a text. */
    static RingBars told() {
        RingBars x = new RingBars();
        x.bar(4);
        x.bar(3);
        Due.law(x, 0, "bend 0 thick*grain;mass 0 heavy+wax;bend 1 thick;mass 1 1;sway 0 mid-2;drift heat*20-wet;");
        Due.law(x, 1, "bend 0 thick*4;mass 0 1;bend 2 grain+at;mass 2 1;sway 1 at-1;");
        Due.job(x, 0, "shave 0 1;");
        Due.job(x, 1, "wax 1 9 when low>1;");
        Due.job(x, 2, "arc 0 2 2;");
        Due.job(x, 3, "shave 2 3 when passes<9;");
        x.slice(0, 1, 30, 2, 7);
        x.slice(1, 2, 25, 3, 2);
        x.wax(0, 3, 4);
        x.wax(1, 0, 2);
        x.tap(0, 0, 16000);
        x.goal(0, 0, 15000);
        x.goal(0, 1, 21000);
        x.goal(1, 0, 18500);
        x.slack(700);
        x.shave(0, 2, 1);
        x.image(true);
        x.shave(0, 0, 3);
        x.tap(0, 1, 21500);
        x.holes(0, 1, 3);
        x.tube(0, 0, 210);
        x.tube(1, 1, 190);
        x.night(20, 60);
        x.night(-5, 3);
        x.note(14000, 10);
        x.note(15600, 12);
        x.blank(13, 5);
        x.blank(11, 9);
        x.blank(12, 40);
        Due.refused(x, 0, "bend 3 1;", 2, 5);
        Due.put(x, "bend 2 7;mass 2");
        return x;
    }

    private static final class Row {
        final List<String> answers = new ArrayList<>();

        void add(String call, int answer) {
            answers.add(call + " = " + answer);
        }
    }

    /** All that can be seen of an object; what it does to that comes last, so it can be done once. */
    static List<String> seen(RingBars x) {
        Row row = new Row();
        for (int what = 0; what < 8; what++) {
            row.add("look(" + what + ")", x.look(what));
        }
        row.add("fault(0)", x.fault(0));
        row.add("fault(1)", x.fault(1));
        int bars = x.look(0);
        for (int bar = 0; bar < bars && bar < 3; bar++) {
            seenBar(row, x, bar);
        }
        for (int night = -1; night < x.look(1) && night < 3; night++) {
            for (int what = 0; what < 4; what++) {
                row.add("nights(" + night + ", " + what + ")", x.nights(night, what));
            }
        }
        for (int what = 0; what <= x.look(2) && what < 4; what++) {
            row.add("set(20, " + what + ")", x.set(20, what));
        }
        for (int law = -1; law < 2; law++) {
            row.add("off(" + law + ")", x.off(law));
        }
        seenTexts(row, x);
        row.add("image(false)", x.image(false) ? 1 : 0);
        row.add("state(0, 1) gone back", x.state(0, 1));
        row.add("state(0, 9) gone back", x.state(0, 9));
        row.add("look(1) gone back", x.look(1));
        return row.answers;
    }

    private static void seenBar(Row row, RingBars x, int bar) {
        int n = x.state(bar, 0);
        for (int what = 1; what < 10; what++) {
            row.add("state(" + bar + ", " + what + ")", x.state(bar, what));
        }
        for (int i = 0; i < n && i < 4; i++) {
            for (int what = 0; what < 4; what++) {
                row.add("of(" + bar + ", " + i + ", " + what + ")", x.of(bar, i, what));
            }
            row.add("takes(" + bar + ", " + i + ", 0)", x.takes(bar, i, 0));
        }
        for (int p = 1; p <= x.state(bar, 1) && p < 4; p++) {
            row.add("pass(" + bar + ", " + p + ", 0)", x.pass(bar, p, 0));
            row.add("pass(" + bar + ", " + p + ", 1)", x.pass(bar, p, 1));
        }
        for (int k = 0; k < 3; k++) {
            row.add("tone(" + bar + ", " + k + ")", x.tone(bar, k));
            row.add("still(" + bar + ", " + k + ", 1)", x.still(bar, k, 1));
        }
        for (int what = 0; what < 4; what++) {
            row.add("in(" + bar + ", 9, 9, " + what + ")", x.in(bar, 9, 9, what));
        }
        row.add("fits(" + bar + ", 4, 3000, 0)", x.fits(bar, 4, 3000, 0));
        row.add("fewest(" + bar + ", 0)", x.fewest(bar, 0));
        row.add("down(" + bar + ")", x.down(bar));
        row.add("enough(" + bar + ", 0, 0)", x.enough(bar, 0, 0));
    }

    private static void seenTexts(Row row, RingBars x) {
        for (int word = 0; word < 3; word++) {
            for (int k = 0; k < 3; k++) {
                row.add("tells(0, " + word + ", " + k + ", 0, 0)", x.tells(0, word, k, 0, 0));
                row.add("tells(1, " + word + ", " + k + ", 0, 0)", x.tells(1, word, k, 0, 0));
            }
        }
        for (int k = 0; k < 4; k++) {
            row.add("job(" + k + ", 0)", x.job(k, 0));
            row.add("of(0, 1, 3) behind it", x.of(0, 1, 3));
        }
        int length = x.feed(0, 0, 0, 0, 0);
        row.add("feed", length);
        if (length > 20) {
            x.end(length - 20);
        }
        row.add("text(0, 1)", x.text(0, 1));
        row.add("its fault(0)", x.fault(0));
        row.add("its fault(1)", x.fault(1));
        row.add("what it tells", x.tells(1, 0, 2, 0, 0));
    }
}
