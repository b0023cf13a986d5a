import java.io.IOException;
import java.nio.file.Files;
import java.nio.file.Path;
import java.util.ArrayList;
import java.util.HashMap;
import java.util.LinkedHashSet;
import java.util.List;
import java.util.Map;
import java.util.Random;
import java.util.Set;
import java.util.regex.Matcher;
import java.util.regex.Pattern;

/**
 * Texts held against the grammar as the document itself writes it: it is read from there and followed by all its ways
 * at once, so that a token can't stand where no way takes it.
 */
public final class GrammarTest {
    private static final Pattern TOKEN = Pattern.compile("[A-Za-z]+|[0-9]+|[^A-Za-z0-9 \n]");
    private static final int LONGEST = 500;

    private final Map<String, Node> rules = new HashMap<>();
    private final int sort;
    private final List<String> words = new ArrayList<>();
    private RingBars x = new RingBars();
    private int calls = 0;

    public static void main(String[] args) throws IOException {
        Edge.says("Terms 1", "= {(bend K E | mass K E | sway K E | drift E) [when B] ;}, K a TONE 0 .. 2.");
        Edge.says("Terms 1", "= {(shave N N | arc N N N | wax N N) [when B] ;}.");
        Edge.says("Terms 1", "B = A {or A}. A = C {and C}. C = E (< | = | >) E | not C | ( B ). E = T {(+ | -) T}. "
            + "T = U {* U | / NUMBER}. U = NUMBER | at | size | mid | end | thick | grain | heavy | wax | heat | wet "
            + "in LAWS; NUMBER | low | high | top | passes in JOBS.");
        Edge.says("Terms 1", "TOKENS: letters as many as stand together are KEYWORDS");
        String document = Files.readString(Path.of("../shared/DOC.md"));
        for (int sort = 0; sort < 2; sort++) {
            GrammarTest test = new GrammarTest(document, sort);
            test.all("", 3);
            test.all(sort == 0 ? "bend 1 " : "arc 2 ", 4);
            test.all(sort == 0 ? "drift 1 when " : "wax 3 9 when ", 4);
            test.all(sort == 0 ? "sway 2 at when not 1 " : "shave 3 9 when ( low ", 4);
            test.many(12000, 7 + sort);
            test.deep();
        }
        Due.close();
    }

    private GrammarTest(String document, int sort) {
        this.sort = sort;
        String text = document.replaceAll("\\s+", " ");
        Matcher texts = Pattern.compile("TEXTS \\(empty at first\\) = (\\{.*?;\\})").matcher(text);
        for (int s = 0; s <= sort; s++) {
            Due.is("the grammar of sort " + s + " is told", true, texts.find());
        }
        // The numbers are named after what they tell, for their bounds to be known.
        rule("TEXT", texts.group(1).replace("shave N N", "shave SLICE DEPTH")
            .replace("arc N N N", "arc SLICE SLICE DEPTH").replace("wax N N", "wax SLICE WAX"));
        for (String name : List.of("B", "A", "C", "E", "T")) {
            Matcher m = Pattern.compile(" " + name + " = (.*?)\\. ").matcher(text);
            Due.is("rule " + name + " is told", true, m.find());
            rule(name, m.group(1).replace("( B )", "OPEN B CLOSE").replace("not C", "not C SHUT")
                .replace("/ NUMBER", "/ PART"));
        }
        Matcher m = Pattern.compile(" U = (.*?) in LAWS; (.*?) in JOBS\\.").matcher(text);
        Due.is("rule U is told", true, m.find());
        rule("U", m.group(1 + sort));
    }

    /** A part of the grammar: a word, or parts of one of the sorts s(equence), |, {, [. */
    private static final class Node {
        final char sort;
        final String word;
        final List<Node> parts = new ArrayList<>();

        Node(char sort, String word) {
            this.sort = sort;
            this.word = word;
        }
    }

    private void rule(String name, String told) {
        List<String> signs = new ArrayList<>();
        Matcher m = Pattern.compile("[A-Za-z]+|\\S").matcher(told);
        while (m.find()) {
            signs.add(m.group());
        }
        int[] at = new int[1];
        rules.put(name, choice(signs, at));
        Due.is("rule " + name + " is read to its end", signs.size(), at[0]);
    }

    private Node choice(List<String> signs, int[] at) {
        Node ways = new Node('|', "");
        ways.parts.add(row(signs, at));
        while (at[0] < signs.size() && signs.get(at[0]).equals("|")) {
            at[0]++;
            ways.parts.add(row(signs, at));
        }
        return ways;
    }

    private Node row(List<String> signs, int[] at) {
        Node row = new Node('s', "");
        while (at[0] < signs.size() && !"|)}]".contains(signs.get(at[0]))) {
            String sign = signs.get(at[0]);
            at[0]++;
            if ("({[".contains(sign)) {
                Node inside = new Node(sign.charAt(0), "");
                inside.parts.add(choice(signs, at));
                at[0]++;
                row.parts.add(inside);
            } else {
                if (sign.matches("[a-z]+")) {
                    words.add(sign);
                }
                row.parts.add(new Node('w', sign));
            }
        }
        return row;
    }

    /** What is still to come, the next one first; two rows of the same parts are the same. */
    private record Rest(Node next, Rest behind) {
    }

    private void expand(Rest rest, Set<Rest> found) {
        if (rest == null || rest.next.sort == 'w' && !rules.containsKey(rest.next.word)
                && !rest.next.word.equals("SHUT")) {
            found.add(rest);
            return;
        }
        Node node = rest.next;
        switch (node.sort) {
            case 's':
                Rest all = rest.behind;
                for (int p = node.parts.size() - 1; p >= 0; p--) {
                    all = new Rest(node.parts.get(p), all);
                }
                expand(all, found);
                break;
            case '|':
                for (Node way : node.parts) {
                    expand(new Rest(way, rest.behind), found);
                }
                break;
            case '(':
                expand(new Rest(node.parts.get(0), rest.behind), found);
                break;
            case '{':
                expand(rest.behind, found);
                expand(new Rest(node.parts.get(0), rest), found);
                break;
            case '[':
                expand(rest.behind, found);
                expand(new Rest(node.parts.get(0), rest.behind), found);
                break;
            default:
                expand(node.word.equals("SHUT") ? rest.behind : new Rest(rules.get(node.word), rest.behind), found);
        }
    }

    /** How many ( and not stand open, told by what must still come to shut them; the one that is read is among them. */
    private static int open(Rest rest) {
        int count = 0;
        for (Rest r = rest; r != null; r = r.behind) {
            count += r.next.word.equals("CLOSE") || r.next.word.equals("SHUT") ? 1 : 0;
        }
        return count;
    }

    /** -1 if a token can't stand for a word of the grammar, else the fault that it is then, or 0. */
    private int taken(String token, String word) {
        boolean number = Character.isDigit(token.charAt(0)) && token.length() <= 5;
        int value = number ? Integer.parseInt(token) : 0;
        switch (word) {
            case "NUMBER": return number ? 0 : -1;
            case "K": return number ? value > 2 ? 2 : 0 : -1;
            case "SLICE": return number ? value > 15 ? 2 : 0 : -1;
            case "DEPTH": return number ? value < 1 || value > 9 ? 2 : 0 : -1;
            case "WAX": return number ? value > 99 ? 2 : 0 : -1;
            case "PART": return number ? value == 0 ? 2 : 0 : -1;
            case "OPEN": return token.equals("(") ? 0 : -1;
            case "CLOSE": return token.equals(")") ? 0 : -1;
            default: return token.equals(word) ? 0 : -1;
        }
    }

    /** The lines of a text, or the fault (less 10) and its place. */
    private int[] due(String text) {
        Set<Rest> now = new LinkedHashSet<>();
        expand(new Rest(rules.get("TEXT"), null), now);
        int lines = 0;
        boolean begins = true;
        Matcher m = TOKEN.matcher(text);
        while (m.find()) {
            int fault = 1;
            Set<Rest> then = new LinkedHashSet<>();
            for (Rest rest : now) {
                int taken = rest == null ? -1 : taken(m.group(), rest.next.word);
                if (taken >= 0) {
                    fault = taken;
                    boolean opens = rest.next.word.equals("OPEN") || rest.next.word.equals("not");
                    if (opens && open(rest) > 8 || begins && lines == 16) {
                        fault = 3;
                    }
                    expand(rest.behind, then);
                }
            }
            if (fault != 0) {
                return new int[] {fault - 10, m.start()};
            }
            begins = m.group().equals(";");
            lines += begins ? 1 : 0;
            now = then;
        }
        return now.contains(null) ? new int[] {lines, -1} : new int[] {-9, text.length()};
    }

    private void hold(String text) {
        if (text.length() > LONGEST) {
            return;
        }
        int need = (text.length() + 19) / 20 + 5;
        if (calls + need > 512) {
            x = new RingBars();
            calls = 0;
        }
        calls += need;
        Due.put(x, text);
        int[] due = due(text);
        int lines = x.text(sort, 0);
        int fault = due[0] < 0 ? due[0] + 10 : 0;
        boolean same = lines == Math.max(due[0], -1) && x.fault(0) == fault && x.fault(1) == due[1];
        // Words are made only where they are needed: there are too many texts for that.
        Due.is(same ? "" : "text(" + sort + ", 0) of " + text.replace('\n', '|') + " with " + lines + " lines, fault "
            + x.fault(0) + " at " + x.fault(1) + ", not fault " + fault + " at " + due[1], true, same);
    }

    /** All rows of so many tokens or fewer behind a text. */
    private void all(String text, int count) {
        hold(text);
        if (count == 0) {
            return;
        }
        String[] tokens = sort == 0 ? new String[] {"bend", "drift", "1", "at", "0", "+", "/", ";", "when", "<", "not",
            "(", ")", "or"} : new String[] {"shave", "wax", "1", "low", "16", "*", "/", ";", "when", "=", "not", "(",
            ")", "and"};
        for (String token : tokens) {
            all(text + token + " ", count - 1);
        }
    }

    private void many(int count, int seed) {
        Random random = new Random(seed);
        for (int c = 0; c < count; c++) {
            List<String> tokens = new ArrayList<>();
            int[] room = {20 + random.nextInt(160)};
            grow(rules.get("TEXT"), random, tokens, room);
            for (int change = random.nextInt(3); change > 0; change--) {
                change(tokens, random);
            }
            hold(written(tokens, random));
        }
    }

    /** A text that the grammar makes, by ways that chance tells; when its room is used up, by the shortest ones. */
    private void grow(Node node, Random random, List<String> tokens, int[] room) {
        room[0]--;
        switch (node.sort) {
            case 's':
                node.parts.forEach(part -> grow(part, random, tokens, room));
                break;
            case '|':
                grow(node.parts.get(room[0] > 0 ? random.nextInt(node.parts.size()) : 0), random, tokens, room);
                break;
            case '(':
                grow(node.parts.get(0), random, tokens, room);
                break;
            case '{':
            case '[':
                while (room[0] > 0 && random.nextInt(5) < 3) {
                    grow(node.parts.get(0), random, tokens, room);
                    if (node.sort == '[') {
                        break;
                    }
                }
                break;
            default:
                if (rules.containsKey(node.word)) {
                    grow(rules.get(node.word), random, tokens, room);
                } else if (!node.word.equals("SHUT")) {
                    tokens.add(token(node.word, random));
                }
        }
    }

    private static String token(String word, Random random) {
        boolean far = random.nextInt(60) == 0;
        switch (word) {
            case "NUMBER": return Integer.toString(random.nextInt(100000));
            case "K": return Integer.toString(random.nextInt(far ? 9 : 3));
            case "SLICE": return Integer.toString(random.nextInt(far ? 20 : 16));
            case "DEPTH": return Integer.toString(far ? random.nextInt(12) : 1 + random.nextInt(9));
            case "WAX": return Integer.toString(random.nextInt(far ? 120 : 100));
            case "PART": return Integer.toString(far ? 0 : 1 + random.nextInt(50));
            case "OPEN": return "(";
            case "CLOSE": return ")";
            default: return word;
        }
    }

    private void change(List<String> tokens, Random random) {
        String[] strays = {"123456", "00000", "000007", "x", "Bend", "benda", "low", "heat", "&", "\t", "\r", ",", "[",
            "\u00e9", "\u0000", "?", ":", "'", ".", "e", "shave", "bend", ";", "when", "not", "(", ")", "-", "2", "="};
        String token = random.nextInt(3) == 0 ? strays[random.nextInt(strays.length)]
            : words.get(random.nextInt(words.size()));
        int at = random.nextInt(tokens.size() + 1);
        int how = random.nextInt(4);
        if (how == 0 || at == tokens.size()) {
            tokens.add(at, token);
        } else if (how == 1) {
            tokens.set(at, token);
        } else if (how == 2) {
            tokens.remove(at);
        } else {
            tokens.subList(at, tokens.size()).clear();
        }
    }

    /** Tokens with blanks between, or none where chance tells so (two words may become one then). */
    private static String written(List<String> tokens, Random random) {
        StringBuilder text = new StringBuilder();
        boolean tight = random.nextInt(4) > 0;
        for (String token : tokens) {
            boolean joins = text.length() > 0 && Character.isLetterOrDigit(text.charAt(text.length() - 1))
                && Character.isLetterOrDigit(token.charAt(0));
            if (joins ? random.nextInt(40) > 0 : !tight && random.nextInt(2) > 0) {
                text.append(random.nextInt(3) == 0 ? '\n' : ' ');
            }
            text.append(token);
        }
        return text.toString() + " ".repeat(random.nextInt(5) == 0 ? random.nextInt(4) : 0);
    }

    /** Rows of ( and not, eight and nine, before and behind others that are shut. */
    private void deep() {
        String head = sort == 0 ? "mass 0 1 when " : "shave 0 1 when ";
        for (int bits = 0; bits < 512; bits++) {
            StringBuilder opened = new StringBuilder();
            StringBuilder shut = new StringBuilder();
            for (int b = 0; b < 9; b++) {
                boolean not = (bits >> b & 1) == 1;
                opened.append(not ? "not " : "(");
                shut.append(not ? "" : ")");
                if (b == 7) {
                    hold(head + opened + "1=1" + shut + ";");
                    hold(head + "not(1=1)or " + opened + "1=1" + shut + ";");
                }
            }
            hold(head + opened + "1=1" + shut + ";");
            hold(head + "not(1=1)and " + opened + "1=1" + shut + ";");
        }
        for (int lines = 15; lines < 19; lines++) {
            String line = sort == 0 ? "drift 1;" : "wax 0 0;";
            hold(line.repeat(lines));
            hold(line.repeat(lines) + ";");
            hold(line.repeat(lines) + (sort == 0 ? "drift" : "wax"));
            hold(line.repeat(lines) + (sort == 0 ? "wax" : "drift"));
            hold(line.repeat(lines) + (sort == 0 ? "bend 3" : "shave 16"));
        }
    }
}
