import java.lang.reflect.Method;
import java.util.ArrayList;
import java.util.Arrays;
import java.util.HashMap;
import java.util.List;
import java.util.Map;
import java.util.Random;

/**
 * Runs of calls told by a seed, on RingBars and on PlainBars side by side: every answer must be the same.
 * With arguments: the first seed and how many runs.
 */
public final class RandomRunsTest {
    private static final int CALLS = 512;
    private static final Map<String, Method> RING = new HashMap<>();
    private static final Map<String, Method> PLAIN = new HashMap<>();

    private final Random random;
    private final RingBars ring = new RingBars();
    private final PlainBars plain = new PlainBars();
    private final List<String> told = new ArrayList<>();
    private final int flavour;
    private int calls;
    private int bars;
    private boolean wrong;

    private RandomRunsTest(long seed) {
        random = new Random(seed);
        flavour = random.nextInt(7);
    }

    public static void main(String[] args) throws Exception {
        for (Method m : RingBars.class.getDeclaredMethods()) {
            if (java.lang.reflect.Modifier.isPublic(m.getModifiers())) {
                RING.put(m.getName(), m);
                PLAIN.put(m.getName(), PlainBars.class.getMethod(m.getName(), m.getParameterTypes()));
            }
        }
        Due.is("methods of the face", 35, RING.size());
        long first = args.length > 0 ? Long.parseLong(args[0]) : 1;
        int runs = args.length > 1 ? Integer.parseInt(args[1]) : 250;
        for (long seed = first; seed < first + runs; seed++) {
            RandomRunsTest run = new RandomRunsTest(seed);
            run.go();
            Due.is("run of seed " + seed, 0, run.wrong ? 1 : 0);
        }
        Due.close();
    }

    private int call(String name, Object... args) throws Exception {
        calls++;
        Object got = RING.get(name).invoke(ring, args);
        Object want = PLAIN.get(name).invoke(plain, args);
        told.add(name + Arrays.toString(args) + " = " + got);
        if (!got.equals(want) && !wrong) {
            wrong = true;
            System.out.println(String.join("\n", told) + "\n  .. but " + want + " is due");
        }
        int answer = want instanceof Integer i ? i : (Boolean) want ? 1 : 0;
        bars = name.equals("bar") ? Math.max(bars, answer + 1) : bars;
        return answer;
    }

    private int pick(int least, int most) {
        return least + random.nextInt(most - least + 1);
    }

    private boolean chance(int of) {
        return random.nextInt(of) == 0;
    }

    /** Mostly within bounds, seldom at the edges or beyond them. */
    private int near(int least, int most) {
        if (!chance(25)) {
            return pick(least, most);
        }
        int[] edges = {least - 1, most + 1, least, most, Integer.MIN_VALUE, Integer.MAX_VALUE, -1, -2};
        return edges[random.nextInt(edges.length)];
    }

    private void go() throws Exception {
        begin();
        while (calls < CALLS - 60 && !wrong) {
            if (chance(2)) {
                focus();
            } else {
                step();
            }
        }
    }

    /** What a run is mostly about. */
    private void focus() throws Exception {
        int bar = pick(0, Math.max(0, bars - 1));
        switch (flavour) {
            case 1 -> reachable(bar);
            case 2 -> heard(bar);
            case 4 -> choosing();
            case 5 -> airs(bar);
            case 6 -> work(bar);
            default -> step();
        }
    }

    /** Goals that a few passes reach, and the passes asked for. */
    private void reachable(int bar) throws Exception {
        call("image", true);
        for (int n = pick(0, 5); n > 0; n--) {
            call("shave", bar, pick(0, 4), 1);
        }
        int[] tones = {call("tone", bar, 0), call("tone", bar, 1), call("tone", bar, 2)};
        call("image", false);
        call("slack", chance(3) ? pick(0, 200) : pick(0, 12));
        for (int k = 0; k < 3; k++) {
            call("goal", bar, k, chance(3) ? 0 : Math.min(999999, Math.max(0, tones[k] + pick(-3, 3))));
        }
        for (int what = 0; what <= 5; what++) {
            call("fewest", bar, what);
        }
        call("shave", bar, pick(0, 4), pick(1, 2));
        call("state", bar, pick(2, 4));
    }

    /** Taps between passes and wax, and what fits them. */
    private void heard(int bar) throws Exception {
        if (!chance(4)) {
            int k = chance(2) ? 0 : pick(0, 2);
            call("tap", bar, k, call("tone", bar, k));
        }
        int most = pick(2, 4);
        int doubt = chance(2) ? 0 : pick(0, 999);
        for (int what = 0; what < 2; what++) {
            call("fits", bar, most, doubt, what);
        }
        call("fits", bar, most, doubt, pick(10, 14));
        if (chance(2)) {
            call("shave", bar, pick(0, 4), 1);
        } else {
            call("wax", bar, pick(0, 4), pick(0, 20));
        }
        call("off", pick(-1, 1));
    }

    private void choosing() throws Exception {
        call("note", near(1, 999999), near(1, chance(2) ? 99 : 30));
        call("blank", near(1, 99), near(0, 40));
        if (chance(3)) {
            int spread = near(0, 60);
            for (int what = 0; what <= 8; what++) {
                call("set", spread, what);
            }
        }
        call("down", near(0, bars));
        if (chance(10)) {
            call("image", chance(2));
        }
    }

    private void airs(int bar) throws Exception {
        call("night", near(-20, 50), near(0, 99));
        call("tube", bar, near(0, 1), chance(3) ? near(1, 9999) : pick(200, 800));
        int heat = near(-20, 50);
        int wet = near(0, 99);
        for (int what = 0; what <= 3; what++) {
            call("in", bar, heat, wet, what);
            call("nights", pick(-1, 5), what);
        }
        int k = pick(0, 2);
        call("goal", bar, k, Math.min(999999, call("tone", bar, k) / 100 * pick(60, 101)));
        call("enough", bar, near(0, 5), k);
        call("holes", bar, pick(0, 2), pick(1, 4));
        call("state", bar, 9);
        call("bar", pick(3, 16));
    }

    /** Jobs until no more passes are kept. */
    private void work(int bar) throws Exception {
        int busy = chance(3) ? bar : 0;
        call("job", pick(0, 1), busy);
        call("goal", busy, pick(0, 2), Math.max(0, Math.min(999999, call("tone", busy, 0) - pick(0, 300))));
        call("state", busy, 1);
        call("state", busy, 4);
        call("pass", busy, pick(1, 201), pick(0, 1));
        call("of", busy, pick(0, 5), 3 * pick(0, 1));
    }

    private void begin() throws Exception {
        int first = pick(1, 4);
        for (int b = 0; b < first; b++) {
            call("bar", flavour == 1 ? pick(3, 6) : flavour == 2 ? pick(3, 5) : near(3, 16));
        }
        for (int b = 0; b < first; b++) {
            for (int n = flavour == 2 ? 5 : pick(0, 8); n > 0; n--) {
                int thick = chance(4) ? pick(1, 4) : pick(1, flavour == 6 ? 99 : 40);
                call("slice", b, flavour == 2 ? n - 1 : pick(0, 5), thick, flavour == 2 ? pick(1, 3) : pick(1, 9), pick(1, 9));
            }
        }
        text(0, 0, flavour == 3 ? law() : fairLaw());
        text(0, 1, chance(2) ? law() : fairLaw());
        text(1, 0, flavour == 6 ? "arc 0 15 9;arc 2 13 5;arc 0 9 3;shave 1 1;" : job());
        text(1, 1, flavour == 6 ? "shave 3 1 when low>high or passes<150;wax 2 40;shave 5 2 when not top=0;" : job());
    }

    private void step() throws Exception {
        int bar = near(0, Math.max(0, bars - 1));
        switch (random.nextInt(44)) {
            case 0 -> call("bar", near(3, flavour == 1 ? 8 : 16));
            case 1, 2 -> call("slice", bar, near(0, 6), near(1, 99), near(1, flavour == 2 ? 4 : 9), near(1, 9));
            case 3 -> call("wax", bar, near(0, 6), near(0, 99));
            case 4 -> call("of", bar, near(0, 8), near(0, 3));
            case 5 -> text(near(0, 1), near(0, 1), chance(2) ? law() : fairLaw());
            case 6 -> text(1, near(0, 3), job());
            case 7 -> spoiltText();
            case 8 -> call("force", near(0, 1));
            case 9 -> call("tells", near(0, 1), near(0, 2), near(0, 2), bar, near(0, 8));
            case 10 -> call("tone", bar, near(0, 2));
            case 11, 12 -> call("shave", bar, near(0, 5), chance(3) ? near(1, 9) : 1);
            case 13 -> call("pass", bar, near(1, 9), near(0, 1));
            case 14, 15, 16 -> goalNearTone(bar);
            case 17 -> call("slack", chance(2) ? pick(0, 30) : near(0, 9999));
            case 18, 19 -> call("state", bar, near(0, 9));
            case 20, 21 -> call("takes", bar, near(0, 6), near(0, 2));
            case 22 -> call("job", near(0, 3), bar);
            case 23, 24 -> fewest(bar);
            case 25, 26 -> tap(bar);
            case 27, 28 -> fits(bar);
            case 29 -> call("off", near(-1, 1));
            case 30 -> stills(bar);
            case 31 -> call("holes", bar, near(0, 3), near(2, 7));
            case 32 -> call("tube", bar, near(0, 1), near(1, 9999));
            case 33, 34 -> call("in", bar, near(-20, 50), near(0, 99), near(0, 3));
            case 35 -> call("night", near(-20, 50), near(0, 99));
            case 36, 37 -> call("nights", near(-1, Math.max(0, call("look", 1) - 1)), near(0, 3));
            case 38 -> call("note", chance(2) ? near(1, 999999) : Math.max(1, call("tone", 0, 0)), near(1, 60));
            case 39 -> call("blank", near(20, 99), near(0, 99));
            case 40 -> sets();
            case 41 -> call("down", bar);
            case 42 -> call("enough", bar, near(0, 5), near(0, 2));
            default -> rare();
        }
    }

    private void spoiltText() throws Exception {
        boolean law = chance(2);
        text(law ? 0 : 1, near(0, 1), spoilt(law ? law() : job()));
    }

    private void rare() throws Exception {
        switch (random.nextInt(4)) {
            case 0 -> call("image", chance(2));
            case 1 -> call("look", near(0, 7));
            case 2 -> call("fault", near(0, 1));
            default -> call("end", near(0, 3));
        }
    }

    private void goalNearTone(int bar) throws Exception {
        int k = near(0, 2);
        int tone = call("tone", bar, k);
        int takes = Math.abs(call("takes", bar, 0, k));
        int goal = tone - pick(0, 4) * (takes < 1000 ? takes : 1) - pick(-20, 20);
        call("goal", bar, k, chance(5) ? near(0, 999999) : Math.max(0, Math.min(goal, 999999)));
    }

    private void fewest(int bar) throws Exception {
        int count = call("state", bar, 0) > 6 && !chance(4) ? -1 : call("fewest", bar, 0);
        for (int i = 1; i <= count; i++) {
            call("fewest", bar, i);
        }
        if (chance(5)) {
            call("fewest", bar, near(count + 1, 7));
        }
    }

    private void tap(int bar) throws Exception {
        int k = near(0, 2);
        int tone = call("tone", bar, k);
        call("tap", bar, k, chance(6) ? near(0, 9999999) : Math.max(0, Math.min(tone, 9999999)));
    }

    private void fits(int bar) throws Exception {
        int most = near(1, 4);
        int doubt = chance(2) ? 0 : near(0, 999);
        call("fits", bar, most, doubt, 0);
        call("fits", bar, most, doubt, 1);
        call("fits", bar, most, doubt, near(10, 15));
        call("fits", bar, most, doubt, near(0, 16));
    }

    private void stills(int bar) throws Exception {
        int k = near(0, 2);
        int count = call("still", bar, k, 0);
        for (int i = 1; i <= Math.min(count, 3) + 1; i++) {
            call("still", bar, k, i);
        }
    }

    private void sets() throws Exception {
        int spread = near(0, 99);
        int notes = call("look", 2);
        for (int what = 0; what <= notes + 1; what += pick(1, 4)) {
            call("set", spread, what);
        }
    }

    // ---- texts

    private void text(int sort, int k, String text) throws Exception {
        int[] n = Due.numbers(text);
        for (int p = 0; p < n.length; p += 5) {
            call("feed", n[p], n[p + 1], n[p + 2], n[p + 3], n[p + 4]);
        }
        call("end", text.length());
        told.add("   " + text);
        call("text", sort, k);
        call("fault", 0);
        call("fault", 1);
    }

    /** A law by which shaving brings tones down a little. */
    private String fairLaw() {
        String[] bends = {"thick*grain", "thick*thick*grain", "thick*(1)", "grain*thick+at", "thick*2+grain*3"};
        String[] masses = {" 7;", " heavy*10+wax;", " heavy*10+wax;", " thick+heavy*9;", " thick*heavy/3+wax+1;"};
        StringBuilder s = new StringBuilder();
        for (int k = 0; k < pick(1, 3); k++) {
            String bend = bends[random.nextInt(bends.length)].replace("(1)", "3");
            s.append("bend ").append(k).append(' ').append(bend);
            s.append(chance(4) ? " when end>0;" : ";");
            s.append("mass ").append(k).append(masses[random.nextInt(masses.length)]);
        }
        s.append("sway 0 mid-").append(pick(0, 5)).append(";drift heat*").append(pick(0, 40)).append("-wet;");
        return s.length() > 240 ? s.substring(0, s.lastIndexOf(";", 240) + 1) : s.toString();
    }

    private String law() {
        StringBuilder s = new StringBuilder();
        int lines = chance(8) ? pick(14, 18) : pick(0, 5);
        for (int l = 0; l < lines && s.length() < 380; l++) {
            String word = List.of("bend", "mass", "sway", "drift").get(random.nextInt(4));
            s.append(word).append(' ').append(word.equals("drift") ? "" : (chance(30) ? pick(0, 9) : pick(0, 2)) + " ");
            s.append(sum(true)).append(when(true)).append(';');
        }
        return s.toString();
    }

    private String job() {
        StringBuilder s = new StringBuilder();
        int lines = chance(8) ? pick(14, 18) : pick(0, 5);
        for (int l = 0; l < lines && s.length() < 380; l++) {
            String one = switch (random.nextInt(3)) {
                case 0 -> "shave " + number(6) + " " + number(9);
                case 1 -> "arc " + number(4) + " " + number(15) + " " + number(9);
                default -> "wax " + number(7) + " " + number(99);
            };
            s.append(one).append(when(false)).append(';');
        }
        return s.toString();
    }

    private String number(int most) {
        return chance(30) ? "" + pick(0, 120) : "" + pick(1, most);
    }

    private String when(boolean law) {
        return chance(2) ? "" : " when " + either(law, 0);
    }

    private String either(boolean law, int deep) {
        String s = both(law, deep);
        return chance(4) ? s + " or " + both(law, deep) : s;
    }

    private String both(boolean law, int deep) {
        String s = part(law, deep);
        return chance(4) ? s + " and " + part(law, deep) : s;
    }

    private String part(boolean law, int deep) {
        if (deep < 12 && chance(4)) {
            return "not " + part(law, deep + 1);
        }
        if (deep < 12 && chance(4)) {
            return "(" + either(law, deep + 1) + ")";
        }
        return sum(law) + "<=>".charAt(random.nextInt(3)) + sum(law);
    }

    private String sum(boolean law) {
        String s = term(law);
        for (int n = pick(0, 3); n > 1; n--) {
            s += (chance(2) ? "+" : " - ") + term(law);
        }
        return s;
    }

    private String term(boolean law) {
        String s = unit(law);
        for (int n = pick(0, 3); n > 1; n--) {
            s += chance(3) ? "/" + (chance(30) ? 0 : pick(1, 20)) : "*" + unit(law);
        }
        return s;
    }

    private String unit(boolean law) {
        if (chance(3)) {
            return "" + (chance(4) ? pick(0, chance(9) ? 123456 : 99999) : pick(0, 40));
        }
        List<String> words = law
            ? List.of("at", "size", "mid", "end", "thick", "grain", "heavy", "wax", "heat", "wet")
            : List.of("low", "high", "top", "passes");
        return words.get(random.nextInt(words.size()));
    }

    private String spoilt(String text) {
        StringBuilder s = new StringBuilder(text);
        for (int n = pick(1, 2); n > 0; n--) {
            int p = random.nextInt(s.length() + 1);
            String[] bits = {";", "(", ")", "not ", " ", "\n", "0", "7", "x", "Z", "when", "+", "/", "=", ",", "\u00e9", "low"};
            switch (random.nextInt(4)) {
                case 0 -> s.insert(p, bits[random.nextInt(bits.length)]);
                case 1 -> s.setLength(p);
                case 2 -> s.delete(p, Math.min(s.length(), p + pick(1, 3)));
                default -> s.replace(p, Math.min(s.length(), p + 1), bits[random.nextInt(bits.length)]);
            }
        }
        return s.toString();
    }
}
