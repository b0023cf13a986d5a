import java.nio.charset.StandardCharsets;
import java.util.ArrayList;
import java.util.Arrays;
import java.util.HashSet;
import java.util.List;
import java.util.Set;
import java.util.function.ToIntFunction;

/**
 * The document said over again in the plainest way: every search tries all there is, every text is a tree, every
 * image is a whole copy. It is what RingBars is held against in random runs.
 */
public final class PlainBars {
    /** What a law or a job may look at; null where there is none. */
    record Sight(int at, int size, int thick, int grain, int heavy, int wax, int heat, int wet, int[] job) { }

    record Line(String word, int[] numbers, ToIntFunction<Sight> sum, ToIntFunction<Sight> when) { }

    record Tap(int k, int heard, int[] thick, int[] wax) { }

    static final class Wrong extends RuntimeException {
        private static final long serialVersionUID = 1L;
        final int sort;
        final int place;

        Wrong(int sort, int place) {
            this.sort = sort;
            this.place = place;
        }
    }

    static final class Wood {
        int[] thick;
        int[] grain;
        int[] heavy;
        int[] wax;
        int[] goals = new int[3];
        List<int[]> passes = new ArrayList<>();
        int lostBy;
        List<Tap> taps = new ArrayList<>();
        int[] holes;
        int[] tubes = {500, 500};

        Wood(int n) {
            thick = new int[n];
            grain = new int[n];
            heavy = new int[n];
            wax = new int[n];
            Arrays.fill(thick, 20);
            Arrays.fill(grain, 5);
            Arrays.fill(heavy, 5);
        }

        Wood copy() {
            Wood w = new Wood(thick.length);
            w.thick = thick.clone();
            w.grain = grain.clone();
            w.heavy = heavy.clone();
            w.wax = wax.clone();
            w.goals = goals.clone();
            w.passes = new ArrayList<>(passes);
            w.lostBy = lostBy;
            w.taps = new ArrayList<>(taps);
            w.holes = holes;
            w.tubes = tubes.clone();
            return w;
        }
    }

    static final class All {
        List<Wood> bars = new ArrayList<>();
        List<List<Line>> laws = new ArrayList<>(List.of(List.of(), List.of()));
        List<List<Line>> jobs = new ArrayList<>(List.of(List.of(), List.of(), List.of(), List.of()));
        int force;
        int slack = 10;
        int[] fault = {0, -1};
        List<int[]> nights = new ArrayList<>();
        List<int[]> notes = new ArrayList<>();
        List<int[]> blanks = new ArrayList<>();

        All copy() {
            All a = new All();
            for (Wood w : bars) {
                a.bars.add(w.copy());
            }
            a.laws = new ArrayList<>(laws);
            a.jobs = new ArrayList<>(jobs);
            a.force = force;
            a.slack = slack;
            a.fault = fault;
            a.nights = new ArrayList<>(nights);
            a.notes = new ArrayList<>(notes);
            a.blanks = new ArrayList<>(blanks);
            return a;
        }
    }

    private All all = new All();
    private All image;
    private String tape = "";

    // ---- reading texts

    private static final class Words {
        final String text;
        final boolean law;
        int p;

        Words(String text, boolean law) {
            this.text = text;
            this.law = law;
        }

        void blanks() {
            while (p < text.length() && (text.charAt(p) == ' ' || text.charAt(p) == '\n')) {
                p++;
            }
        }

        private static boolean letter(char c) {
            return c >= 'a' && c <= 'z' || c >= 'A' && c <= 'Z';
        }

        /** The next token, "" at the end; it is not taken. */
        String peek() {
            blanks();
            if (p == text.length()) {
                return "";
            }
            char c = text.charAt(p);
            int q = p + 1;
            if (letter(c)) {
                while (q < text.length() && letter(text.charAt(q))) {
                    q++;
                }
            } else if (c >= '0' && c <= '9') {
                while (q < text.length() && text.charAt(q) >= '0' && text.charAt(q) <= '9') {
                    q++;
                }
            }
            return text.substring(p, q);
        }

        boolean isNumber() {
            return peek().matches("[0-9]{1,5}");
        }

        void take() {
            p += peek().length();
        }

        Wrong wrong(int sort) {
            blanks();
            return new Wrong(sort, p);
        }

        void must(String token) {
            if (!peek().equals(token)) {
                throw wrong(1);
            }
            take();
        }

        int number(int least, int most) {
            if (!isNumber()) {
                throw wrong(1);
            }
            int v = Integer.parseInt(peek());
            if (v < least || v > most) {
                throw wrong(2);
            }
            take();
            return v;
        }

        List<Line> lines() {
            List<Line> lines = new ArrayList<>();
            while (!peek().isEmpty()) {
                lines.add(line(lines.size()));
            }
            return lines;
        }

        Line line(int before) {
            String word = peek();
            List<String> words = law ? List.of("bend", "mass", "sway", "drift") : List.of("shave", "arc", "wax");
            if (!words.contains(word)) {
                throw wrong(1);
            }
            if (before == 16) {
                throw wrong(3);
            }
            take();
            int[] numbers = {};
            ToIntFunction<Sight> sum = null;
            if (law) {
                if (!word.equals("drift")) {
                    numbers = new int[] {number(0, 2)};
                }
                sum = sum();
            } else if (word.equals("shave")) {
                numbers = new int[] {number(0, 15), number(1, 9)};
            } else if (word.equals("arc")) {
                numbers = new int[] {number(0, 15), number(0, 15), number(1, 9)};
            } else {
                numbers = new int[] {number(0, 15), number(0, 99)};
            }
            ToIntFunction<Sight> when = s -> 1;
            if (peek().equals("when")) {
                take();
                when = either(0);
            }
            must(";");
            return new Line(word, numbers, sum, when);
        }

        ToIntFunction<Sight> either(int open) {
            ToIntFunction<Sight> left = both(open);
            while (peek().equals("or")) {
                take();
                ToIntFunction<Sight> a = left;
                ToIntFunction<Sight> b = both(open);
                left = s -> a.applyAsInt(s) == 1 || b.applyAsInt(s) == 1 ? 1 : 0;
            }
            return left;
        }

        ToIntFunction<Sight> both(int open) {
            ToIntFunction<Sight> left = part(open);
            while (peek().equals("and")) {
                take();
                ToIntFunction<Sight> a = left;
                ToIntFunction<Sight> b = part(open);
                left = s -> a.applyAsInt(s) == 1 && b.applyAsInt(s) == 1 ? 1 : 0;
            }
            return left;
        }

        ToIntFunction<Sight> part(int open) {
            String t = peek();
            if (t.equals("not") || t.equals("(")) {
                if (open == 8) {
                    throw wrong(3);
                }
                take();
                if (t.equals("not")) {
                    ToIntFunction<Sight> a = part(open + 1);
                    return s -> a.applyAsInt(s) == 1 ? 0 : 1;
                }
                ToIntFunction<Sight> b = either(open + 1);
                must(")");
                return b;
            }
            ToIntFunction<Sight> a = sum();
            String sign = peek();
            if (!List.of("<", "=", ">").contains(sign)) {
                throw wrong(1);
            }
            take();
            ToIntFunction<Sight> b = sum();
            return s -> {
                int c = Integer.compare(a.applyAsInt(s), b.applyAsInt(s));
                return (sign.equals("<") ? c < 0 : sign.equals("=") ? c == 0 : c > 0) ? 1 : 0;
            };
        }

        ToIntFunction<Sight> sum() {
            ToIntFunction<Sight> left = term();
            while (peek().equals("+") || peek().equals("-")) {
                boolean plus = peek().equals("+");
                take();
                ToIntFunction<Sight> a = left;
                ToIntFunction<Sight> b = term();
                left = plus ? s -> a.applyAsInt(s) + b.applyAsInt(s) : s -> a.applyAsInt(s) - b.applyAsInt(s);
            }
            return left;
        }

        ToIntFunction<Sight> term() {
            ToIntFunction<Sight> left = unit();
            while (peek().equals("*") || peek().equals("/")) {
                boolean times = peek().equals("*");
                take();
                ToIntFunction<Sight> a = left;
                if (times) {
                    ToIntFunction<Sight> b = unit();
                    left = s -> a.applyAsInt(s) * b.applyAsInt(s);
                } else {
                    int by = number(1, 99999);
                    left = s -> a.applyAsInt(s) / by;
                }
            }
            return left;
        }

        ToIntFunction<Sight> unit() {
            if (isNumber()) {
                int v = number(0, 99999);
                return s -> v;
            }
            ToIntFunction<Sight> u = law ? lawUnit(peek()) : jobUnit(peek());
            if (u == null) {
                throw wrong(1);
            }
            take();
            return u;
        }

        static ToIntFunction<Sight> lawUnit(String t) {
            return switch (t) {
                case "at" -> s -> s.at;
                case "size" -> s -> s.size;
                case "mid" -> s -> s.size == 0 ? 0 : Math.abs(2 * s.at + 1 - s.size);
                case "end" -> s -> s.size == 0 ? 0 : Math.min(s.at, s.size - 1 - s.at);
                case "thick" -> s -> s.thick;
                case "grain" -> s -> s.grain;
                case "heavy" -> s -> s.heavy;
                case "wax" -> s -> s.wax;
                case "heat" -> s -> s.heat;
                case "wet" -> s -> s.wet;
                default -> null;
            };
        }

        static ToIntFunction<Sight> jobUnit(String t) {
            int i = List.of("low", "high", "top", "passes").indexOf(t);
            return i < 0 ? null : s -> s.job[i];
        }
    }

    // ---- what laws tell

    private static int held(int v, int least, int most) {
        return v < least ? least : Math.min(v, most);
    }

    private static int worth(List<Line> law, String word, int k, Sight s) {
        for (Line l : law) {
            if (l.word.equals(word) && (word.equals("drift") || l.numbers[0] == k) && l.when.applyAsInt(s) == 1) {
                int v = l.sum.applyAsInt(s);
                return word.equals("bend") || word.equals("mass") ? held(v, 0, 99999) : held(v, -9999, 9999);
            }
        }
        return 0;
    }

    private static Sight sight(int at, int[] thick, int[] grain, int[] heavy, int[] wax) {
        return new Sight(at, thick.length, thick[at], grain[at], heavy[at], wax[at], 0, 0, null);
    }

    private static int ring(List<Line> law, int k, int[] thick, int[] grain, int[] heavy, int[] wax) {
        long bend = 0;
        long mass = 0;
        for (int i = 0; i < thick.length; i++) {
            Sight s = sight(i, thick, grain, heavy, wax);
            bend += worth(law, "bend", k, s);
            mass += worth(law, "mass", k, s);
        }
        return mass == 0 ? 0 : (int) Math.floorDiv(1000 * bend, mass);
    }

    private List<Line> law() {
        return all.laws.get(all.force);
    }

    private int ring(Wood w, int k) {
        return ring(law(), k, w.thick, w.grain, w.heavy, w.wax);
    }

    private int ring(Wood w, int k, int[] thick) {
        return ring(law(), k, thick, w.grain, w.heavy, w.wax);
    }

    private boolean lost(Wood w, int[] thick) {
        for (int k = 0; k < 3; k++) {
            if (w.goals[k] > 0 && ring(w, k, thick) < w.goals[k] - all.slack) {
                return true;
            }
        }
        return false;
    }

    private boolean isTrue(Wood w, int[] thick) {
        for (int k = 0; k < 3; k++) {
            if (w.goals[k] > 0 && Math.abs(ring(w, k, thick) - w.goals[k]) > all.slack) {
                return false;
            }
        }
        return true;
    }

    private Wood wood(int bar) {
        return bar >= 0 && bar < all.bars.size() ? all.bars.get(bar) : null;
    }

    private static boolean has(Wood w, int i) {
        return w != null && i >= 0 && i < w.thick.length;
    }

    private static boolean in(int v, int a, int b) {
        return v >= a && v <= b;
    }

    private static int[] less(int[] row, int i, int d) {
        int[] r = row.clone();
        r[i] -= d;
        return r;
    }

    // ---- the face

    public int bar(int n) {
        if (!in(n, 3, 16) || all.bars.size() == 10) {
            return -1;
        }
        all.bars.add(new Wood(n));
        return all.bars.size() - 1;
    }

    public boolean slice(int bar, int i, int thick, int grain, int heavy) {
        Wood w = wood(bar);
        if (!has(w, i) || !in(thick, 1, 99) || !in(grain, 1, 9) || !in(heavy, 1, 9) || !w.passes.isEmpty()) {
            return false;
        }
        w.thick[i] = thick;
        w.grain[i] = grain;
        w.heavy[i] = heavy;
        return true;
    }

    public boolean wax(int bar, int i, int v) {
        Wood w = wood(bar);
        if (!has(w, i) || !in(v, 0, 99)) {
            return false;
        }
        w.wax[i] = v;
        return true;
    }

    public int of(int bar, int i, int what) {
        Wood w = wood(bar);
        if (!has(w, i) || !in(what, 0, 3)) {
            return -1;
        }
        return List.of(w.thick, w.grain, w.heavy, w.wax).get(what)[i];
    }

    public int feed(int a, int b, int c, int d, int e) {
        if (tape.length() > 480) {
            return -1;
        }
        java.nio.ByteBuffer bytes = java.nio.ByteBuffer.allocate(20);
        bytes.putInt(a).putInt(b).putInt(c).putInt(d).putInt(e);
        tape += new String(bytes.array(), StandardCharsets.ISO_8859_1);
        return tape.length();
    }

    public boolean end(int n) {
        if (n < 0 || n > tape.length()) {
            return false;
        }
        tape = tape.substring(0, n);
        return true;
    }

    public int text(int sort, int k) {
        String text = tape;
        tape = "";
        all.fault = new int[] {0, -1};
        if (!in(sort, 0, 1) || !in(k, 0, sort == 0 ? 1 : 3)) {
            return -1;
        }
        try {
            List<Line> lines = new Words(text, sort == 0).lines();
            (sort == 0 ? all.laws : all.jobs).set(k, lines);
            return lines.size();
        } catch (Wrong w) {
            all.fault = new int[] {w.sort, w.place};
            return -1;
        }
    }

    public int fault(int what) {
        return in(what, 0, 1) ? all.fault[what] : -1;
    }

    public int force(int law) {
        if (!in(law, 0, 1)) {
            return -1;
        }
        int was = all.force;
        all.force = law;
        return was;
    }

    public int tells(int law, int word, int tone, int bar, int i) {
        Wood w = wood(bar);
        if (!has(w, i) || !in(law, 0, 1) || !in(word, 0, 2) || !in(tone, 0, 2)) {
            return -100000;
        }
        String name = List.of("bend", "mass", "sway").get(word);
        return worth(all.laws.get(law), name, tone, sight(i, w.thick, w.grain, w.heavy, w.wax));
    }

    public int tone(int bar, int k) {
        Wood w = wood(bar);
        return w == null || !in(k, 0, 2) ? -1 : ring(w, k);
    }

    public int shave(int bar, int i, int d) {
        Wood w = wood(bar);
        if (!has(w, i) || !in(d, 1, 9) || w.thick[i] <= d || w.passes.size() == 200) {
            return -1;
        }
        w.thick[i] -= d;
        w.passes.add(new int[] {i, d});
        if (w.lostBy == 0 && lost(w, w.thick)) {
            w.lostBy = w.passes.size();
        }
        return w.passes.size();
    }

    public int pass(int bar, int p, int what) {
        Wood w = wood(bar);
        return w == null || !in(p, 1, w.passes.size()) || !in(what, 0, 1) ? -1 : w.passes.get(p - 1)[what];
    }

    public boolean goal(int bar, int k, int v) {
        Wood w = wood(bar);
        if (w == null || !in(k, 0, 2) || !in(v, 0, 999999)) {
            return false;
        }
        w.goals[k] = v;
        return true;
    }

    public boolean slack(int v) {
        if (!in(v, 0, 9999)) {
            return false;
        }
        all.slack = v;
        return true;
    }

    public int state(int bar, int what) {
        Wood w = wood(bar);
        if (w == null || !in(what, 0, 9)) {
            return -2;
        }
        return switch (what) {
            case 0 -> w.thick.length;
            case 1 -> w.passes.size();
            case 2 -> lost(w, w.thick) ? 1 : 0;
            case 3 -> isTrue(w, w.thick) ? 1 : 0;
            case 4 -> w.lostBy;
            case 8 -> w.taps.size();
            case 9 -> amiss(w);
            default -> w.goals[what - 5];
        };
    }

    private List<Integer> stills(Wood w, int k) {
        List<Integer> found = new ArrayList<>();
        for (int i = 0; i + 1 < w.thick.length; i++) {
            int a = worth(law(), "sway", k, sight(i, w.thick, w.grain, w.heavy, w.wax));
            int b = worth(law(), "sway", k, sight(i + 1, w.thick, w.grain, w.heavy, w.wax));
            if ((a >= 0) != (b >= 0)) {
                found.add(i);
            }
        }
        return found;
    }

    private int amiss(Wood w) {
        List<Integer> s = stills(w, 0);
        if (w.holes == null || s.isEmpty()) {
            return -1;
        }
        return Math.abs(w.holes[0] - s.get(0)) + Math.abs(w.holes[1] - s.get(s.size() - 1));
    }

    public int takes(int bar, int i, int k) {
        Wood w = wood(bar);
        if (!has(w, i) || !in(k, 0, 2) || w.thick[i] == 1) {
            return -10000000;
        }
        return ring(w, k) - ring(w, k, less(w.thick, i, 1));
    }

    public int job(int k, int bar) {
        Wood w = wood(bar);
        if (w == null || !in(k, 0, 3)) {
            return -1;
        }
        int done = 0;
        for (Line l : all.jobs.get(k)) {
            int[] seen = {ring(w, 0), ring(w, 1), ring(w, 2), w.passes.size()};
            if (l.when.applyAsInt(new Sight(0, 0, 0, 0, 0, 0, 0, 0, seen)) == 0) {
                continue;
            }
            int[] n = l.numbers;
            if (l.word.equals("shave")) {
                done += shave(bar, n[0], n[1]) == -1 ? 0 : 1;
            } else if (l.word.equals("wax")) {
                wax(bar, n[0], n[1]);
            } else {
                for (int i = n[0]; i <= n[1]; i++) {
                    done += shave(bar, i, n[2] - Math.abs(i - Math.floorDiv(n[0] + n[1], 2))) == -1 ? 0 : 1;
                }
            }
        }
        return done;
    }

    /** The first row of so many passes, or null. */
    private List<Integer> row(Wood w, int[] thick, int length) {
        if (length == 0) {
            return isTrue(w, thick) ? new ArrayList<>() : null;
        }
        for (int i = 0; i < thick.length; i++) {
            if (thick[i] > 1) {
                int[] then = less(thick, i, 1);
                List<Integer> rest = lost(w, then) ? null : row(w, then, length - 1);
                if (rest != null) {
                    rest.add(0, i);
                    return rest;
                }
            }
        }
        return null;
    }

    public int fewest(int bar, int what) {
        Wood w = wood(bar);
        if (w == null || w.thick.length > 8 || what < 0) {
            return -1;
        }
        for (int length = 0; length <= 5; length++) {
            List<Integer> row = row(w, w.thick, length);
            if (row != null) {
                return what == 0 ? length : what <= length ? row.get(what - 1) : -1;
            }
        }
        return -1;
    }

    public int tap(int bar, int k, int v) {
        Wood w = wood(bar);
        if (w == null || !in(k, 0, 2) || !in(v, 0, 9999999) || w.taps.size() == 12) {
            return -1;
        }
        w.taps.add(new Tap(k, v, w.thick.clone(), w.wax.clone()));
        return w.taps.size();
    }

    private void rows(Wood w, int[] row, int i, int most, int doubt, List<int[]> found) {
        if (i == row.length) {
            for (Tap t : w.taps) {
                if (Math.abs(ring(law(), t.k, t.thick, row, w.heavy, t.wax) - t.heard) > doubt) {
                    return;
                }
            }
            found.add(row.clone());
            return;
        }
        for (int g = 1; g <= most; g++) {
            row[i] = g;
            rows(w, row, i + 1, most, doubt, found);
        }
    }

    public int fits(int bar, int most, int doubt, int what) {
        Wood w = wood(bar);
        if (w == null || w.thick.length > 5 || !in(most, 1, 4) || !in(doubt, 0, 99999)) {
            return -1;
        }
        List<int[]> found = new ArrayList<>();
        rows(w, new int[w.thick.length], 0, most, doubt, found);
        if (what == 0) {
            return found.size();
        }
        if (found.isEmpty()) {
            return -1;
        }
        if (what == 1) {
            int best = -1;
            int count = 0;
            for (int i = 0; i < w.thick.length; i++) {
                Set<Integer> tones = new HashSet<>();
                for (int[] row : w.thick[i] > 1 ? found : List.<int[]>of()) {
                    tones.add(ring(law(), 0, less(w.thick, i, 1), row, w.heavy, w.wax));
                }
                if (tones.size() > count) {
                    count = tones.size();
                    best = i;
                }
            }
            return best;
        }
        if (!in(what, 10, 9 + w.thick.length)) {
            return -1;
        }
        int g = found.get(0)[what - 10];
        return found.stream().allMatch(r -> r[what - 10] == g) ? g : -1;
    }

    private long far(int law) {
        long sum = 0;
        for (Wood w : all.bars) {
            for (Tap t : w.taps) {
                sum += Math.abs((long) ring(all.laws.get(law), t.k, t.thick, w.grain, w.heavy, t.wax) - t.heard);
            }
        }
        return Math.min(sum, 999999999);
    }

    public int off(int law) {
        if (law == -1) {
            return far(1) < far(0) ? 1 : 0;
        }
        return in(law, 0, 1) ? (int) far(law) : -1;
    }

    public int still(int bar, int k, int what) {
        Wood w = wood(bar);
        if (w == null || !in(k, 0, 2)) {
            return -1;
        }
        List<Integer> s = stills(w, k);
        return what == 0 ? s.size() : in(what, 1, s.size()) ? s.get(what - 1) : -1;
    }

    public boolean holes(int bar, int a, int b) {
        Wood w = wood(bar);
        if (!has(w, a) || !has(w, b) || a >= b) {
            return false;
        }
        w.holes = new int[] {a, b};
        return true;
    }

    public boolean tube(int bar, int tuning, int length) {
        Wood w = wood(bar);
        if (w == null || !in(tuning, 0, 1) || !in(length, 1, 9999)) {
            return false;
        }
        w.tubes[tuning] = length;
        return true;
    }

    private int drifted(Wood w, int heat, int wet) {
        int drift = worth(law(), "drift", 0, new Sight(0, 0, 0, 0, 0, 0, heat, wet, null));
        long v = Math.floorDiv((long) ring(w, 0) * (10000 - drift), 10000L);
        return (int) Math.max(0, Math.min(v, 999999999));
    }

    private int beat(Wood w, int length, int heat, int wet) {
        return Math.abs(Math.floorDiv(1000 * (3310 + 6 * heat), length) - drifted(w, heat, wet));
    }

    public int in(int bar, int heat, int wet, int what) {
        Wood w = wood(bar);
        if (w == null || !in(heat, -20, 50) || !in(wet, 0, 99) || !in(what, 0, 3)) {
            return -1;
        }
        if (what == 0) {
            return drifted(w, heat, wet);
        }
        if (what < 3) {
            return beat(w, w.tubes[what - 1], heat, wet);
        }
        int aim = drifted(w, heat, wet);
        int best = 1;
        for (int length = 2; length <= 9999; length++) {
            int air = 1000 * (3310 + 6 * heat);
            if (Math.abs(air / length - aim) < Math.abs(air / best - aim)) {
                best = length;
            }
        }
        return best;
    }

    public int night(int heat, int wet) {
        if (!in(heat, -20, 50) || !in(wet, 0, 99) || all.nights.size() == 20) {
            return -1;
        }
        all.nights.add(new int[] {heat, wet});
        return all.nights.size() - 1;
    }

    private int worst(int[] night, int tuning) {
        int best = -1;
        for (int b = 0; b < all.bars.size(); b++) {
            if (best == -1 || beatOf(b, night, tuning) > beatOf(best, night, tuning)) {
                best = b;
            }
        }
        return best;
    }

    private int beatOf(int b, int[] night, int tuning) {
        return beat(all.bars.get(b), all.bars.get(b).tubes[tuning], night[0], night[1]);
    }

    private int suits(int[] night) {
        if (all.bars.isEmpty()) {
            return 0;
        }
        return beatOf(worst(night, 1), night, 1) < beatOf(worst(night, 0), night, 0) ? 1 : 0;
    }

    public int nights(int night, int what) {
        if (night == -1) {
            return (int) all.nights.stream().filter(n -> suits(n) == 1).count();
        }
        if (!in(night, 0, all.nights.size() - 1) || !in(what, 0, 3)) {
            return -2;
        }
        int[] n = all.nights.get(night);
        if (what < 2) {
            return worst(n, what);
        }
        if (what == 2) {
            return suits(n);
        }
        long most = 0;
        for (Wood a : all.bars) {
            for (Wood b : all.bars) {
                long x = (long) drifted(a, n[0], n[1]) * ring(b, 0);
                long y = (long) drifted(b, n[0], n[1]) * ring(a, 0);
                most = Math.max(most, Math.abs(x - y) / 1000);
            }
        }
        return (int) Math.min(most, 999999999);
    }

    public int note(int goal, int length) {
        if (!in(goal, 1, 999999) || !in(length, 1, 99) || all.notes.size() == 8) {
            return -1;
        }
        all.notes.add(new int[] {goal, length});
        return all.notes.size() - 1;
    }

    public int blank(int length, int ring) {
        if (!in(length, 1, 99) || !in(ring, 0, 99) || all.blanks.size() == 8) {
            return -1;
        }
        all.blanks.add(new int[] {length, ring});
        return all.blanks.size() - 1;
    }

    private void sets(int spread, List<Integer> given, List<List<Integer>> found) {
        if (given.size() == all.notes.size()) {
            int low = given.stream().mapToInt(b -> all.blanks.get(b)[1]).min().orElse(0);
            int high = given.stream().mapToInt(b -> all.blanks.get(b)[1]).max().orElse(0);
            if (high - low <= spread) {
                found.add(new ArrayList<>(given));
            }
            return;
        }
        for (int b = 0; b < all.blanks.size(); b++) {
            if (!given.contains(b) && all.blanks.get(b)[0] >= all.notes.get(given.size())[1]) {
                given.add(b);
                sets(spread, given, found);
                given.remove(given.size() - 1);
            }
        }
    }

    private int waste(List<Integer> set) {
        int sum = 0;
        for (int j = 0; j < set.size(); j++) {
            sum += all.blanks.get(set.get(j))[0] - all.notes.get(j)[1];
        }
        return sum;
    }

    public int set(int spread, int what) {
        if (!in(spread, 0, 99) || !in(what, 0, all.notes.size())) {
            return -1;
        }
        List<List<Integer>> found = new ArrayList<>();
        sets(spread, new ArrayList<>(), found);
        List<Integer> best = null;
        for (List<Integer> s : found) {
            if (best == null || waste(s) < waste(best)) {
                best = s;
            }
        }
        if (best == null) {
            return -1;
        }
        return what == 0 ? waste(best) : best.get(what - 1);
    }

    public int down(int bar) {
        Wood w = wood(bar);
        int best = -1;
        for (int j = 0; w != null && j < all.notes.size(); j++) {
            int goal = all.notes.get(j)[0];
            if (goal <= ring(w, 0) + all.slack && (best == -1 || goal > all.notes.get(best)[0])) {
                best = j;
            }
        }
        return best;
    }

    public int enough(int bar, int i, int k) {
        Wood w = wood(bar);
        if (!has(w, i) || !in(k, 0, 2) || w.goals[k] == 0) {
            return -1;
        }
        for (int v = w.wax[i]; v <= 99; v++) {
            int[] wax = w.wax.clone();
            wax[i] = v;
            if (ring(law(), k, w.thick, w.grain, w.heavy, wax) <= w.goals[k] + all.slack) {
                return v;
            }
        }
        return -1;
    }

    public boolean image(boolean taken) {
        if (taken) {
            image = all.copy();
            return true;
        }
        if (image == null) {
            return false;
        }
        all = image.copy();
        return true;
    }

    public int look(int what) {
        return switch (what) {
            case 0 -> all.bars.size();
            case 1 -> all.nights.size();
            case 2 -> all.notes.size();
            case 3 -> all.blanks.size();
            case 4 -> all.slack;
            case 5 -> all.force;
            case 6 -> (int) all.bars.stream().filter(w -> lost(w, w.thick)).count();
            case 7 -> (int) all.bars.stream().filter(w -> isTrue(w, w.thick)).count();
            default -> -1;
        };
    }
}
