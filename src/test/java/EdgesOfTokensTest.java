import java.util.List;

/** The boundaries of texts (Terms 1, promise 8): which signs are tokens, and the three faults with their places. */
public final class EdgesOfTokensTest {
    private static final int LAW = 0;
    private static final int JOB = 1;
    private static final List<String> LAW_HEADS = List.of("bend", "mass", "sway", "drift");
    private static final List<String> JOB_HEADS = List.of("shave", "arc", "wax");
    private static final List<String> JOINTS = List.of("when", "or", "and", "not");
    private static final List<String> LAW_UNITS =
        List.of("at", "size", "mid", "end", "thick", "grain", "heavy", "wax", "heat", "wet");
    private static final List<String> JOB_UNITS = List.of("low", "high", "top", "passes");
    private static final String HEAD = "bend 0 1 when ";

    public static void main(String[] args) {
        anySign();
        lettersTogether();
        keywordsOfSuchAText();
        aLetterMoreOrLess();
        digitsTogether();
        blanksBetween();
        cutShort();
        cantStandAtTheEnd();
        partByNothing();
        tones();
        slices();
        depths();
        wax();
        lines();
        open();
        openNoMore();
        firstByPlace();
        inAnyPart();
        leastAtOnePlace();
        Due.close();
    }

    private static void taken(int sort, String text, int lines) {
        Due.taken(new RingBars(), sort, text, lines);
    }

    private static void refused(int sort, String text, int fault, int place) {
        Due.refused(new RingBars(), sort, text, fault, place);
    }

    private static boolean isLetter(int c) {
        return c >= 'a' && c <= 'z' || c >= 'A' && c <= 'Z';
    }

    private static void anySign() {
        Edge.says("Terms 1", "; + - * / ( ) < = > .");
        for (int c = 0; c < 256; c++) {
            String sign = String.valueOf((char) c);
            String law = "bend 0 1" + sign + ";";
            String job = "wax 0 1" + sign + ";";
            if (c >= '0' && c <= '9' || c == 32 || c == 10) {
                taken(LAW, law, 1);
                taken(JOB, job, 1);
            } else {
                refused(LAW, law, 1, ";+-*/".contains(sign) ? 9 : 8);
                refused(JOB, job, 1, c == ';' ? 8 : 7);
            }
            boolean compares = "<=>".contains(sign);
            if (compares) {
                taken(LAW, HEAD + "1" + sign + "1;", 1);
            } else {
                boolean goesOn = c >= '0' && c <= '9' || c == 32 || c == 10 || "+-*/".contains(sign);
                refused(LAW, HEAD + "1" + sign + "1;", 1, c == 32 || c == 10 ? 16 : goesOn ? 17 : 15);
            }
        }
    }

    private static void lettersTogether() {
        Edge.says("Terms 1", "letters as many as stand together are KEYWORDS (those told for such a TEXT) or none");
        for (int c = 0; c < 256; c++) {
            String law = "bend" + (char) c + " 0 1;";
            if (c == 32 || c == 10) {
                taken(LAW, law, 1);
            } else if (c >= '0' && c <= '2') {
                refused(LAW, law, 1, 8);
            } else if (c >= '3' && c <= '9') {
                refused(LAW, law, 2, 4);
            } else {
                refused(LAW, law, 1, isLetter(c) ? 0 : 4);
            }
            String first = (char) c + "bend 0 1;";
            if (c == 32 || c == 10) {
                taken(LAW, first, 1);
            } else {
                refused(LAW, first, 1, 0);
            }
        }
        taken(LAW, "bend0thick-1when at<2or at>9;", 1);
        refused(LAW, "bend0thickwhen at<2;", 1, 5);
        refused(LAW, "bend 0 1 whenat<2;", 1, 9);
        refused(LAW, "BEND 0 1;", 1, 0);
        refused(LAW, "bend 0 Thick;", 1, 7);
    }

    private static void keywordsOfSuchAText() {
        Edge.says("Terms 1", "U = NUMBER | at | size | mid | end | thick | grain | heavy | wax | heat | wet in LAWS; NUMBER | low | high | top | passes in JOBS.");
        for (List<String> words : List.of(LAW_HEADS, JOB_HEADS, JOINTS, LAW_UNITS, JOB_UNITS)) {
            for (String word : words) {
                lawWord(word);
                jobWord(word);
            }
        }
    }

    private static void lawWord(String word) {
        if (word.equals("drift")) {
            taken(LAW, "drift 1;", 1);
            refused(LAW, "drift 0 1;", 1, 8);
        } else if (LAW_HEADS.contains(word)) {
            taken(LAW, word + " 0 1;", 1);
            refused(LAW, word + " 0;", 1, 6);
        } else {
            refused(LAW, word + " 0 1;", 1, 0);
        }
        boolean unit = LAW_UNITS.contains(word);
        if (unit) {
            taken(LAW, "bend 0 " + word + ";", 1);
            taken(LAW, HEAD + word + ">0;", 1);
            taken(LAW, "drift " + word + "*2;", 1);
        } else {
            refused(LAW, "bend 0 " + word + ";", 1, 7);
            refused(LAW, HEAD + word + ">0;", 1, word.equals("not") ? 17 : 14);
        }
        refused(LAW, "bend 0 1 " + word + " 1=1;", 1, word.equals("when") ? 17 : 9, word.equals("when"));
        refused(LAW, "bend 0 1/" + word + ";", 1, 9);
    }

    private static void jobWord(String word) {
        String numbers = word.equals("arc") ? " 0 1 2;" : " 0 1;";
        if (JOB_HEADS.contains(word)) {
            taken(JOB, word + numbers, 1);
            refused(JOB, word + " 0;", 1, word.length() + 2);
        } else {
            refused(JOB, word + numbers, 1, 0);
        }
        if (JOB_UNITS.contains(word)) {
            taken(JOB, "shave 0 1 when " + word + ">0;", 1);
        } else {
            refused(JOB, "shave 0 1 when " + word + ">0;", 1, word.equals("not") ? 18 : 15);
        }
        refused(JOB, "shave " + word + " 1;", 1, 6);
        refused(JOB, "shave 0 " + word + ";", 1, 8);
        refused(JOB, "arc 0 " + word + " 1;", 1, 6);
        refused(JOB, "wax 0 " + word + ";", 1, 6);
    }

    /** Refused, but for the one word with which the text is right. */
    private static void refused(int sort, String text, int fault, int place, boolean right) {
        if (right) {
            taken(sort, text, 1);
        } else {
            refused(sort, text, fault, place);
        }
    }

    private static void aLetterMoreOrLess() {
        for (String word : LAW_HEADS) {
            String rest = word.equals("drift") ? " 1;" : " 0 1;";
            refused(LAW, word + "s" + rest, 1, 0);
            refused(LAW, word.substring(0, word.length() - 1) + rest, 1, 0);
            refused(LAW, word.substring(1) + rest, 1, 0);
        }
        for (String word : LAW_UNITS) {
            refused(LAW, "bend 0 " + word + "s;", 1, 7);
            refused(LAW, "bend 0 " + word.substring(0, word.length() - 1) + ";", 1, 7);
            refused(LAW, "bend 0 " + word.substring(1) + ";", 1, 7);
        }
        for (String word : JOB_HEADS) {
            refused(JOB, word + "s 0 1;", 1, 0);
            refused(JOB, word.substring(0, word.length() - 1) + " 0 1;", 1, 0);
        }
        for (String word : JOB_UNITS) {
            refused(JOB, "wax 0 1 when " + word + "s=1;", 1, 13);
            refused(JOB, "wax 0 1 when " + word.substring(0, word.length() - 1) + "=1;", 1, 13);
        }
        refused(JOB, "wax 0 1 when passesx=1;", 1, 13);
        refused(JOB, "wax 0 1 when passed=1;", 1, 13);
        refused(LAW, "bend 0 1 whe 1=1;", 1, 9);
        refused(LAW, "bend 0 1 whens 1=1;", 1, 9);
        refused(LAW, "bend 0 1 when no 1=1;", 1, 14);
        refused(LAW, "bend 0 1 when 1=1 ore 1=1;", 1, 18);
        refused(LAW, "bend 0 1 when 1=1 o 1=1;", 1, 18);
        refused(LAW, "bend 0 1 when 1=1 an 1=1;", 1, 18);
    }

    private static void digitsTogether() {
        Edge.says("Terms 1", "digits as many as stand together NUMBERS of 1 to 5 digits or none");
        for (String n : List.of("0", "9", "10", "123", "1234", "99999", "00000", "00001")) {
            taken(LAW, "bend 0 " + n + ";", 1);
            RingBars x = new RingBars();
            x.bar(3);
            Due.law(x, 0, "bend 0 " + n + ";");
            Due.is("the number " + n, Integer.parseInt(n), x.tells(0, 0, 0, 0, 0));
        }
        for (String n : List.of("100000", "000000", "000001", "999999", "1234567890", "99999999999999999999")) {
            refused(LAW, "bend 0 " + n + ";", 1, 7);
            refused(LAW, "bend 0 at/" + n + ";", 1, 10);
            refused(LAW, "bend " + n + " 1;", 1, 5);
            refused(JOB, "shave 0 1 when low<" + n + ";", 1, 19);
            refused(JOB, "shave " + n + " 1;", 1, 6);
            refused(JOB, "wax 0 " + n + ";", 1, 6);
        }
        taken(LAW, "bend 00002 1/00001;", 1);
        taken(JOB, "shave 00015 00009;arc 00000 00015 00001;wax 00000 00099;", 3);
        refused(LAW, "bend 0 1 1;", 1, 9);
        refused(LAW, "bend 0 99999 9;", 1, 13);
    }

    private static void blanksBetween() {
        Edge.says("Terms 1", "Blanks (32, 10) between.");
        taken(LAW, "bend\n0\n1\nwhen\nat\n<\n1\nand\nnot\n(\n1\n=\n2\n)\n;\n", 1);
        taken(LAW, "  bend  0  1  +  2  *  3  /  4  -  at  ;  ", 1);
        taken(LAW, "", 0);
        taken(LAW, " ", 0);
        taken(LAW, "\n", 0);
        taken(JOB, " \n \n", 0);
        taken(JOB, "\nshave\n0\n1\n;\n\n", 1);
        refused(LAW, "be nd 0 1;", 1, 0);
        refused(LAW, "bend 0 1 0;", 1, 9);
        refused(LAW, "bend 0 th\nick;", 1, 7);
        refused(LAW, "\n\n;", 1, 2);
        refused(LAW, "bend 0 1\t;", 1, 8);
        refused(LAW, "bend 0 1\r\n;", 1, 8);
        refused(LAW, "bend 0 1\u00a0;", 1, 8);
    }

    private static void cutShort() {
        Edge.says("Terms 1", "1 what can't stand there (the end: the text's length)");
        cut(LAW, "bend 0 thick*12/34-at+5 when not (grain>2 or heat<wet) and size=9;\nmass 2 heavy;sway 1 mid-end;drift wax;");
        cut(JOB, "shave 0 1;\n wax 15 99 when low+high>2*3/4 and not (passes=7 or top<1);arc 3 12 9;");
    }

    /** A right text in which no word begins with another: cut anywhere, what can't stand is a cut word, or the end. */
    private static void cut(int sort, String text) {
        int lines = 0;
        for (int end = 0; end <= text.length(); end++) {
            String part = text.substring(0, end);
            boolean whole = part.strip().isEmpty() || part.strip().endsWith(";");
            lines = (int) part.chars().filter(c -> c == ';').count();
            if (whole) {
                taken(sort, part, lines);
                continue;
            }
            boolean inWord = end < text.length() && isLetter(text.charAt(end - 1)) && isLetter(text.charAt(end));
            int from = end;
            while (inWord && from > 0 && isLetter(text.charAt(from - 1))) {
                from--;
            }
            refused(sort, part, 1, from);
        }
        Due.is("lines of the whole text", sort == LAW ? 4 : 3, lines);
    }

    private static void cantStandAtTheEnd() {
        refused(LAW, "bend", 1, 4);
        refused(LAW, "bend   ", 1, 7);
        refused(LAW, "bend 0 1\n\n", 1, 10);
        refused(LAW, "bend 0 1" + " ".repeat(492), 1, 500);
        refused(LAW, " ".repeat(496) + "bend", 1, 500);
        refused(LAW, " ".repeat(497) + "ben", 1, 497);
        refused(JOB, " ".repeat(490) + "wax 0 1   ", 1, 500);
        taken(JOB, " ".repeat(490) + "wax 0 1  ;", 1);
        taken(LAW, " ".repeat(491) + "bend 0 1;", 1);
        refused(LAW, " ".repeat(490) + "bend 0 1;;", 1, 499);
    }

    private static void partByNothing() {
        Edge.says("Terms 1", "2 (at the NUMBER) a part by 0");
        refused(LAW, "bend 0 1/0;", 2, 9);
        refused(LAW, "bend 0 1/ \n 0;", 2, 12);
        refused(LAW, "bend 0 1/00000;", 2, 9);
        taken(LAW, "bend 0 1/1;", 1);
        taken(LAW, "bend 0 0/1;", 1);
        taken(LAW, "bend 0 1/99999;", 1);
        taken(LAW, "bend 0 1*0;", 1);
        refused(LAW, "drift 1/1/0;", 2, 10);
        refused(LAW, "drift 1*1/0*2;", 2, 10);
        refused(LAW, HEAD + "1/0=1;", 2, 16);
        refused(LAW, HEAD + "1=1/0;", 2, 18);
        refused(JOB, "wax 0 1 when low/0=1;", 2, 17);
        taken(JOB, "wax 0 1 when low/1=1/2;", 1);
    }

    private static void tones() {
        Edge.says("Terms 1", "a TONE above 2");
        for (String word : List.of("bend", "mass", "sway")) {
            for (int k = 0; k < 3; k++) {
                taken(LAW, word + " " + k + " 1;", 1);
            }
            refused(LAW, word + " 3 1;", 2, 5);
            refused(LAW, word + "3 1;", 2, 4);
            refused(LAW, word + "\n  00003 1;", 2, 7);
            refused(LAW, word + " 99999 1;", 2, 5);
        }
        taken(LAW, "drift 3;", 1);
    }

    private static void slices() {
        Edge.says("Terms 1", "a SLICE above 15");
        for (String i : List.of("0", "15", "00015")) {
            taken(JOB, "shave " + i + " 1;", 1);
            taken(JOB, "arc " + i + " 0 1;", 1);
            taken(JOB, "arc 0 " + i + " 1;", 1);
            taken(JOB, "wax " + i + " 1;", 1);
        }
        for (String i : List.of("16", "99", "00016", "99999")) {
            refused(JOB, "shave " + i + " 1;", 2, 6);
            refused(JOB, "arc " + i + " 0 1;", 2, 4);
            refused(JOB, "arc 0 " + i + " 1;", 2, 6);
            refused(JOB, "wax " + i + " 1;", 2, 4);
        }
    }

    private static void depths() {
        Edge.says("Terms 1", "a depth that is not 1 .. 9");
        for (String d : List.of("1", "9", "00009")) {
            taken(JOB, "shave 0 " + d + ";", 1);
            taken(JOB, "arc 0 1 " + d + ";", 1);
        }
        for (String d : List.of("0", "10", "00000", "99999")) {
            refused(JOB, "shave 0 " + d + ";", 2, 8);
            refused(JOB, "arc 0 1 " + d + ";", 2, 8);
        }
    }

    private static void wax() {
        Edge.says("Terms 1", "WAX above 99.");
        taken(JOB, "wax 0 0;", 1);
        taken(JOB, "wax 0 99;", 1);
        taken(JOB, "wax 0 00099;", 1);
        refused(JOB, "wax 0 100;", 2, 6);
        refused(JOB, "wax 0 00100;", 2, 6);
        refused(JOB, "wax 0 99999;", 2, 6);
    }

    private static void lines() {
        Edge.says("Terms 1", "3 (at its KEYWORD) the 17th line");
        taken(LAW, "drift 1;".repeat(15), 15);
        taken(LAW, "drift 1;".repeat(16), 16);
        refused(LAW, "drift 1;".repeat(17), 3, 128);
        refused(LAW, "drift 1;".repeat(18), 3, 128);
        for (String word : LAW_HEADS) {
            refused(LAW, "drift 1;".repeat(16) + word, 3, 128);
            refused(LAW, "drift 1;".repeat(16) + "\n \n" + word + " 9 /", 3, 131);
        }
        taken(LAW, "drift 1;".repeat(16) + "\n ", 16);
        taken(JOB, "wax 0 1;".repeat(16), 16);
        for (String word : JOB_HEADS) {
            refused(JOB, "wax 0 1;".repeat(16) + word, 3, 128);
            refused(JOB, "wax 0 1;".repeat(16) + "  " + word + " 0 1;", 3, 130);
        }
        // a line that has a condition is one line
        taken(LAW, "drift 1 when 1=1;".repeat(16), 16);
        refused(LAW, "drift 1 when 1=1;".repeat(16) + "drift 1;", 3, 272);
    }

    private static void open() {
        Edge.says("Terms 1", "(at it) the 9th ( or not that is open.");
        for (int sort = LAW; sort <= JOB; sort++) {
            String head = sort == LAW ? HEAD : "wax 0 12 when ";
            taken(sort, head + "(".repeat(8) + "1=1" + ")".repeat(8) + ";", 1);
            refused(sort, head + "(".repeat(9) + "1=1" + ")".repeat(9) + ";", 3, 22);
            refused(sort, head + "(".repeat(9), 3, 22);
            refused(sort, head + "(".repeat(8), 1, 22);
            taken(sort, head + "not ".repeat(8) + "1=1;", 1);
            refused(sort, head + "not ".repeat(9) + "1=1;", 3, 46);
            refused(sort, head + "not ".repeat(9), 3, 46);
            refused(sort, head + "not ".repeat(8), 1, 46);
            taken(sort, head + "not(".repeat(4) + "1=1" + ")".repeat(4) + ";", 1);
            refused(sort, head + "not(".repeat(4) + "\n(1=1" + ")".repeat(5) + ";", 3, 31);
            refused(sort, head + "not(".repeat(4) + "\nnot 1=1" + ")".repeat(4) + ";", 3, 31);
            refused(sort, head + "(not ".repeat(4) + "(1=1" + ")".repeat(5) + ";", 3, 34);
            refused(sort, head + "(not ".repeat(4) + "not 1=1" + ")".repeat(4) + ";", 3, 34);
        }
    }

    private static void openNoMore() {
        Edge.says("Terms 1", "that is open");
        taken(LAW, HEAD + "(1=1) and ".repeat(20) + "(1=1);", 1);
        taken(LAW, HEAD + "not 1=1 or ".repeat(20) + "not 1=1;", 1);
        taken(LAW, HEAD + "not not(1=1) and ".repeat(12) + "not(not 1=1);", 1);
        String eight = "(".repeat(8) + "1=1" + ")".repeat(8);
        taken(LAW, HEAD + eight + " and " + eight + " or " + "not ".repeat(8) + "1=1 and " + eight + ";", 1);
        // of eight that are open one is closed, so one more may be opened, and no second
        taken(LAW, HEAD + "(".repeat(8) + "1=1) and (1=1" + ")".repeat(8) + ";", 1);
        refused(LAW, HEAD + "(".repeat(8) + "1=1) and ((1=1" + ")".repeat(9) + ";", 3, 32);
        taken(LAW, HEAD + "(".repeat(7) + "not 1=1 and not 1=1" + ")".repeat(7) + ";", 1);
        refused(LAW, HEAD + "(".repeat(7) + "not 1=1 and not not 1=1" + ")".repeat(7) + ";", 3, 37);
        taken(LAW, HEAD + "not ".repeat(7) + "(1=1) and " + "not ".repeat(7) + "(1=1);", 1);
        // the next line begins anew
        taken(LAW, "bend 0 1 when " + eight + ";bend 0 1 when " + eight + ";", 2);
    }

    private static void firstByPlace() {
        Edge.says("Terms 1", "FAULTS, the first by its place");
        refused(LAW, "bend 3 1;bend 0 1", 2, 5);
        refused(LAW, "bend 0 1 1;bend 3 1;", 1, 9);
        refused(LAW, "bend 0 1/0", 2, 9);
        refused(LAW, "bend 0 1;bend 9 1/0", 2, 14);
        refused(LAW, "bend 0 +/0;", 1, 7);
        refused(LAW, "drift 1;".repeat(16) + "bend 9 1/0", 3, 128);
        refused(LAW, "drift 1;".repeat(15) + "bend 9 1;drift 1;", 2, 125);
        refused(LAW, "drift 1;".repeat(15) + "drift 1 1;drift 1;", 1, 128);
        refused(LAW, HEAD + "(".repeat(9) + "1/0=", 3, 22);
        refused(LAW, HEAD + "1/0=1 and " + "(".repeat(9), 2, 16);
        refused(LAW, HEAD + "1 and " + "(".repeat(9), 1, 16);
        refused(JOB, "shave 16 0", 2, 6);
        refused(JOB, "shave 15 0", 2, 9);
        refused(JOB, "arc 16 16 0", 2, 4);
        refused(JOB, "arc 15 16 0", 2, 7);
        refused(JOB, "arc 15 15 0", 2, 10);
        refused(JOB, "wax 16 100", 2, 4);
        refused(JOB, "wax 15 100", 2, 7);
        refused(JOB, "wax 15 99", 1, 9);
        refused(JOB, "wax ; 100;", 1, 4);
    }

    /** What stands before a fault, and what would follow it, change neither the fault nor its place. */
    private static void inAnyPart() {
        Edge.says("Terms 1", "2 (at the NUMBER) a part by 0");
        Edge.says("Terms 1", "(at it) the 9th ( or not that is open");
        for (String before : List.of("", "1=1 or ", "1=1 and ", "not ", "(", "not(", "1=1 or 1=1 or ", "1=1 or 1=1 and ",
                "1=1 and 1=1 or ", "(1=1 or ", "(1=1 and ", "not(1=1 or ", "1=1 or not ", "1=1 and (", "(1=1)or ")) {
            int opened = (int) before.chars().filter(c -> c == '(').count()
                - (int) before.chars().filter(c -> c == ')').count() + (before.contains("not") ? 1 : 0);
            int place = HEAD.length() + before.length();
            for (String behind : List.of("", ";", ")", ");", " or 1=1;", " and 1=1);", " when 1=1;", " 1", "#")) {
                for (String sum : List.of("1/", "1+1/", "1-1/", "1*1/", "1/1/", "at=1/", "1<1+1/", "1>1*1/")) {
                    refused(LAW, HEAD + before + sum + "0" + behind, 2, place + sum.length());
                    refused(LAW, HEAD + before + sum + "at" + behind, 1, place + sum.length());
                }
                for (String deep : List.of("(", "not ")) {
                    String most = deep.repeat(8 - opened);
                    refused(LAW, HEAD + before + most + "(" + behind, 3, place + most.length());
                    refused(LAW, HEAD + before + most + "not" + " " + behind, 3, place + most.length());
                    refused(LAW, HEAD + before + most + "or" + " " + behind, 1, place + most.length());
                }
            }
        }
    }

    private static void leastAtOnePlace() {
        Edge.says("Terms 1", "at one place the least");
        refused(LAW, "bend 100000 1;", 1, 5);
        refused(LAW, "bend 0 1/000000;", 1, 9);
        refused(JOB, "shave 100000 1;", 1, 6);
        refused(JOB, "shave 0 000000;", 1, 8);
        refused(JOB, "wax 0 100000;", 1, 6);
        for (String word : List.of("shave", "arc", "wax", "when", "at", "not", "(", ";", "7", "x", "#")) {
            refused(LAW, "drift 1;".repeat(16) + word, 1, 128);
        }
        for (String word : List.of("bend", "drift", "low", "when", "not", "(", ";", "7", "x", "#")) {
            refused(JOB, "wax 0 1;".repeat(16) + word, 1, 128);
        }
        refused(LAW, HEAD + "(".repeat(8) + "1(1=1)", 1, 23);
        refused(LAW, HEAD + "(".repeat(8) + "1=1 (1=1)", 1, 26);
        refused(LAW, HEAD + "(".repeat(8) + "1=1 not 1=1", 1, 26);
        refused(LAW, HEAD + "not ".repeat(8) + "1 not 1=1", 1, 48);
    }
}
