/** The boundaries of promises 10 to 12: numbers that wrap or are held, lines that are so, tones without mass. */
public final class EdgesOfLawsTest {
    private static final int LEAST = Integer.MIN_VALUE;
    private static final int MOST = Integer.MAX_VALUE;
    private static final String GREATEST = "65536*32767+65535";
    private static final String DEEPEST = "65536*32768";

    public static void main(String[] args) {
        wrapAbove();
        wrapBelow();
        wrapTimes();
        wrapInConditions();
        partTowardsNothing();
        heldBend();
        heldSway();
        heldDrift();
        firstLineThatIsSo();
        noLine();
        sixteenLines();
        readAnew();
        readAnewShorter();
        units();
        noAirButForDrift();
        longTexts();
        longTextsAgain();
        deepTexts();
        toneOfNoMass();
        toneDownwards();
        greatestTone();
        inForceAtFirst();
        forceRefused();
        tellsRefused();
        toneRefused();
        Due.close();
    }

    private static RingBars lawed(int n, String law) {
        RingBars x = new RingBars();
        x.bar(n);
        Due.is("lines of " + law, true, Due.law(x, 0, law) >= 0);
        return x;
    }

    private static void sway(String sum, int want) {
        RingBars x = lawed(3, "sway 0 " + sum + ";");
        Due.is("sway by " + sum, want, x.tells(0, 2, 0, 0, 1));
    }

    private static void so(String condition, boolean want) {
        RingBars x = lawed(3, "sway 0 1 when " + condition + ";sway 0 2;");
        Due.is(condition, want ? 1 : 2, x.tells(0, 2, 0, 0, 1));
    }

    private static void wrapAbove() {
        Edge.says("Terms 1", "Ints, which wrap");
        sway(GREATEST, 9999);
        sway(GREATEST + "+1", -9999);
        sway(GREATEST + "+1-1", 9999);
        // the sum of two that are greatest is -2, and of three 2147483645
        sway(GREATEST + "+" + GREATEST, -2);
        sway(GREATEST + "+" + GREATEST + "+2", 0);
        sway("65536*32767+65536", -9999);
        sway("65536*32767*2+65536*2", 0);
    }

    private static void wrapBelow() {
        sway("0-65536*32767-65535", -9999);
        sway("0-65536*32767-65535-1", -9999);
        sway("0-65536*32767-65535-2", 9999);
        sway("0-" + DEEPEST, -9999);
        sway(DEEPEST + "-1", 9999);
        sway(DEEPEST + "-" + DEEPEST, 0);
    }

    private static void wrapTimes() {
        // 99999 * 99999 is 9999800001, and 1409865409 wrapped
        sway("99999*99999/99999/10000", 1);
        sway("99999*99999/99999", 9999);
        sway("99999*99999/99999/2", 7049);
        // 46340 * 46340 is 2147395600, 46341 * 46341 is 2147488281, and -2147479015 wrapped
        sway("46340*46340/99999/9", 2386);
        sway("46341*46341/99999/9", -2386);
        sway("65536*65536", 0);
        // 2 ** 48 less 65536
        sway("65536*65535*65537/8", -8192);
        sway("65536*65536+7", 7);
        // 3 ** 21 is 10460353203, and 1870418611 wrapped
        sway("3*3*3*3*3*3*3*3*3*3*3*3*3*3*3*3*3*3*3*3*3/99999/9", 2078);
    }

    private static void wrapInConditions() {
        so(GREATEST + ">0", true);
        so(GREATEST + "+1>0", false);
        so(GREATEST + "+1<0", true);
        so(GREATEST + "+1=" + DEEPEST, true);
        so("0-" + DEEPEST + "=" + DEEPEST, true);
        so(DEEPEST + "<" + GREATEST, true);
        so(GREATEST + ">" + DEEPEST, true);
        so("65536*65536=0", true);
        // they are compared, not taken from one another
        so(DEEPEST + "<1", true);
        so("1>" + DEEPEST, true);
        so(DEEPEST + ">1", false);
    }

    private static void partTowardsNothing() {
        Edge.says("Terms 1", "/ goes towards 0.");
        // 65536 * 49152 is -1073741824 wrapped; by 99999 it is 10737 and a half from 0
        sway("65536*49152/99999", -9999);
        sway("65536*49152/99999/2", -5368);
        sway("65536*49152/99999/10", -1073);
        sway("65536*49152/99999/10737", -1);
        sway("65536*49152/99999/10738", 0);
        sway("65536*49152/99999/99999", 0);
        sway("7/2", 3);
        sway("1/2", 0);
        sway("0/5", 0);
        sway(DEEPEST + "/1", -9999);
        sway(DEEPEST + "/99999/3", -7158);
        // a part is taken of all that stands before it in its term, and of no other
        sway("9*5/2", 22);
        sway("9/2*5", 20);
        sway("1-9/2", -3);
        sway("6+3/1", 9);
        sway("6-3/1", 3);
        sway("6*3/1+5/1*3", 33);
        so("6+3/1=9 and 1+1/1=2", true);
    }

    private static void heldBend() {
        Edge.says("Terms 1", "bend and mass are held to 0 .. 99999");
        String[] sums = {"99998", "99999", "99999+1", "99999*9", GREATEST, GREATEST + "+1", "1", "0", "0-1", "1-2-3", DEEPEST};
        int[] want = {99998, 99999, 99999, 99999, 99999, 0, 1, 0, 0, 0, 0};
        for (int word = 0; word < 2; word++) {
            for (int s = 0; s < sums.length; s++) {
                for (int k = 0; k < 3; k++) {
                    RingBars x = lawed(3, (word == 0 ? "bend " : "mass ") + k + " " + sums[s] + ";");
                    Due.is("word " + word + " of " + sums[s], want[s], x.tells(0, word, k, 0, 2));
                }
            }
        }
    }

    private static void heldSway() {
        Edge.says("Terms 1", "sway and drift to -9999 .. 9999.");
        String[] sums = {"9998", "9999", "10000", "99999", "0-9998", "0-9999", "0-10000", "0-99999", DEEPEST, "0-1", "0"};
        int[] want = {9998, 9999, 9999, 9999, -9998, -9999, -9999, -9999, -9999, -1, 0};
        for (int s = 0; s < sums.length; s++) {
            for (int k = 0; k < 3; k++) {
                RingBars x = lawed(3, "sway " + k + " " + sums[s] + ";");
                Due.is("sway of " + sums[s], want[s], x.tells(0, 2, k, 0, 2));
            }
        }
    }

    private static void heldDrift() {
        // tone 0 is 10000000, so that it drifts to 1000 times what 10000 less drift is
        String[] sums = {"9998", "9999", "10000", "99999", "0-9998", "0-9999", "0-10000", DEEPEST};
        int[] want = {2, 1, 1, 1, 19998, 19999, 19999, 19999};
        for (int s = 0; s < sums.length; s++) {
            RingBars x = lawed(3, "bend 0 10000;mass 0 1;drift " + sums[s] + ";");
            Due.is("drift of " + sums[s], 1000 * want[s], x.in(0, 0, 0, 0));
        }
    }

    private static void firstLineThatIsSo() {
        Edge.says("Terms 1", "E of its first line (of that K) whose B is so (or that has none)");
        RingBars x = lawed(4, "mass 0 90;bend 1 80;bend 0 1 when at=0;bend 0 2 when at<2;bend 0 3 when at<3;bend 0 4;bend 0 5;"
            + "bend 0 6 when at=3;bend 2 70 when at>2;");
        for (int i = 0; i < 4; i++) {
            Due.is("bend of slice " + i, i + 1, x.tells(0, 0, 0, 0, i));
            Due.is("bend of tone 1", 80, x.tells(0, 0, 1, 0, i));
            Due.is("bend of tone 2", i > 2 ? 70 : 0, x.tells(0, 0, 2, 0, i));
            Due.is("mass", 90, x.tells(0, 1, 0, 0, i));
        }
    }

    private static void noLine() {
        Edge.says("Terms 1", "0 without one");
        RingBars x = lawed(3, "bend 1 7;mass 0 8;sway 2 9 when at=1;drift 5 when heat>0;");
        int[][] want = {{0, 7, 0}, {8, 0, 0}, {0, 0, 0}};
        for (int word = 0; word < 3; word++) {
            for (int k = 0; k < 3; k++) {
                Due.is("tells(0, " + word + ", " + k + ", 0, 0)", want[word][k], x.tells(0, word, k, 0, 0));
                Due.is("tells(1, " + word + ", " + k + ", 0, 0)", 0, x.tells(1, word, k, 0, 0));
            }
        }
        Due.is("sway of the slice that is so", 9, x.tells(0, 2, 2, 0, 1));
        RingBars y = lawed(3, "bend 0 10000;mass 0 1;drift 5000 when heat>0;");
        Due.is("drift that is so", 5000000, y.in(0, 1, 0, 0));
        Due.is("drift without a line that is so", 10000000, y.in(0, 0, 0, 0));
    }

    /** All sixteen lines of a law can tell, the last as well as the first. */
    private static void sixteenLines() {
        StringBuilder law = new StringBuilder();
        for (int i = 0; i < 15; i++) {
            law.append("sway 1 ").append(100 + i).append(" when at=").append(i).append(';');
        }
        law.append("sway 1 7*9 when at>14;");
        for (int k = 0; k < 2; k++) {
            RingBars x = new RingBars();
            x.bar(16);
            Due.is("lines", 16, Due.law(x, k, law.toString()));
            for (int i = 0; i < 16; i++) {
                Due.is("line " + i, i < 15 ? 100 + i : 63, x.tells(k, 2, 1, 0, i));
            }
            // the last line of another sort and tone
            Due.law(x, k, "bend 0 1;".repeat(15) + "mass 2 9-1 when thick=20;");
            Due.is("the sixteenth line", 8, x.tells(k, 1, 2, 0, 9));
            Due.law(x, k, "bend 0 1;".repeat(15) + "mass 2 8 when at=3;");
            Due.is("the sixteenth line, being so", 8, x.tells(k, 1, 2, 0, 3));
            Due.is("the sixteenth line, not being so", 0, x.tells(k, 1, 2, 0, 9));
            Due.is("a shorter law", 1, Due.law(x, k, "bend 0 1;"));
            Due.is("no line is left behind it", 0, x.tells(k, 1, 2, 0, 9));
        }
    }

    /** What was read before does not count: a line of another sort, tone and condition at the same place. */
    private static void readAnew() {
        String[] before = {"sway 2 9 when at=1;", "bend 1 1;mass 1 1;", "drift 1+2+3+4 when heat=9;"};
        for (String text : before) {
            RingBars x = lawed(3, text);
            Due.is("drift behind " + text, 1, Due.law(x, 0, "drift 5000;"));
            Due.law(x, 1, text);
            Due.law(x, 1, "drift 5000;bend 0 10;mass 0 1;");
            x.force(1);
            Due.is("a tone that drifts behind " + text, 5000, x.in(0, 0, 0, 0));
            Due.is("bend behind " + text, 10, x.tells(1, 0, 0, 0, 1));
            Due.law(x, 1, text + "bend 0 1 1;");
            Due.is("a tone that drifts behind a fault", 5000, x.in(0, 0, 0, 0));
        }
    }

    /** Nor do sums and conditions that were longer: what stood behind the end of the shorter one. */
    private static void readAnewShorter() {
        String[][] pairs = {{"sway 0 8/2;", "sway 0 8;"}, {"sway 0 1 when not 1=1;", "sway 0 8 when 1=1;"},
            {"sway 0 9-1;", "sway 0 8;"}, {"sway 0 2*2/2;", "sway 0 2*4;"}, {"sway 0 1 when not not 1=2;", "sway 0 8 when 1=1;"}};
        for (String[] pair : pairs) {
            RingBars x = lawed(3, pair[0]);
            Due.is("lines of " + pair[1], 1, Due.law(x, 0, pair[1]));
            Due.is(pair[1] + " behind " + pair[0], 8, x.tells(0, 2, 0, 0, 0));
        }
        RingBars x = lawed(3, "");
        Due.job(x, 0, "wax 0 5 when not 1=2;");
        Due.job(x, 0, "wax 0 6 when 1=1;");
        x.job(0, 0);
        Due.is("a job behind a longer one", 6, x.of(0, 0, 3));
    }

    private static void units() {
        Edge.says("Terms 1", "mid (2 at + 1 less n, as far as from 0), end (how many SLICES lie between it and the nearer end)");
        for (int n : new int[] {3, 4, 15, 16}) {
            RingBars x = lawed(n, "sway 0 mid;sway 1 end;sway 2 at*100+size;");
            for (int i = 0; i < n; i++) {
                Due.is("mid of " + i + " of " + n, Math.abs(2 * i + 1 - n), x.tells(0, 2, 0, 0, i));
                Due.is("end of " + i + " of " + n, Math.min(i, n - 1 - i), x.tells(0, 2, 1, 0, i));
                Due.is("at and size of " + i + " of " + n, i * 100 + n, x.tells(0, 2, 2, 0, i));
            }
        }
        RingBars x = lawed(3, "bend 0 thick*1000+grain*100+heavy;bend 1 wax;");
        x.slice(0, 0, 99, 9, 9);
        x.slice(0, 1, 1, 1, 1);
        x.wax(0, 2, 99);
        Due.is("a slice of the greatest numbers", 99909, x.tells(0, 0, 0, 0, 0));
        Due.is("a slice of the least numbers", 1101, x.tells(0, 0, 0, 0, 1));
        Due.is("the most wax", 99, x.tells(0, 0, 1, 0, 2));
        Due.is("no wax", 0, x.tells(0, 0, 1, 0, 1));
    }

    private static void noAirButForDrift() {
        Edge.says("Terms 1", "heat and wet (0, but for drift, which has heat and wet alone)");
        RingBars x = lawed(3, "bend 0 heat*100+wet+1;mass 0 1;sway 0 heat-wet;drift heat*100+wet;");
        Due.is("drift sees the air", 1000 * (10000 - 5099) / 10000, x.in(0, 50, 99, 0));
        Due.is("bend sees none, behind it", 1, x.tells(0, 0, 0, 0, 0));
        Due.is("sway sees none, behind it", 0, x.tells(0, 2, 0, 0, 0));
        Due.is("tone 0, behind it", 1000, x.tone(0, 0));
        Due.is("drift in the cold", 1000 * (10000 + 2000) / 10000, x.in(0, -20, 0, 0));
        Due.is("tone 0, behind it", 1000, x.tone(0, 0));
        x.night(50, 99);
        x.nights(0, 2);
        Due.is("tone 0, behind a night", 1000, x.tone(0, 0));
        Due.is("bend, behind a night", 1, x.tells(0, 0, 0, 0, 2));
        for (String word : new String[] {"at", "size", "mid", "end", "thick", "grain", "heavy", "wax"}) {
            RingBars y = lawed(3, "bend 0 10;mass 0 1;drift 5000 when " + word + ">0;");
            y.wax(0, 0, 9);
            y.wax(0, 2, 9);
            y.tone(0, 0);
            Due.is("drift has no " + word, 10000, y.in(0, 1, 1, 0));
        }
    }

    /** Texts of 500 bytes, all of which counts. */
    private static void longTexts() {
        sway("1" + "+1".repeat(244) + "+12", 257);
        sway("11" + "+1".repeat(245), 256);
        sway("1" + "*2".repeat(13) + "*1".repeat(231) + "/1", 8192);
        sway("8192" + "/1".repeat(244), 8192);
        sway("8192" + "*1".repeat(243) + "/2", 4096);
        sway("10" + "-1".repeat(245), -235);
        so("1=2" + " or 1=2".repeat(65) + " or 1=1", true);
        so("1=2" + " or 1=2".repeat(65) + " or 1=3", false);
        so("1=1" + " and 1=1".repeat(57) + " and 1=2", false);
        so("1=1" + " and 1=1".repeat(57) + " and 2=2", true);
    }

    /** A text may be as long as the tape each time, also behind others that were as long or that were refused. */
    private static void longTextsAgain() {
        RingBars x = new RingBars();
        x.bar(3);
        for (int turn = 1; turn <= 4; turn++) {
            String law = "sway 0 1" + "+1".repeat(240) + "+" + turn + ";";
            Due.is("a long law, time " + turn, 1, Due.law(x, 0, law));
            Due.is("what it tells", 241 + turn, x.tells(0, 2, 0, 0, 0));
            Due.is("a long law with a fault", -1, Due.law(x, 0, law + "x"));
            Due.is("what it tells yet", 241 + turn, x.tells(0, 2, 0, 0, 0));
            Due.is("a long job", 1, Due.job(x, 0, "wax 0 " + turn + " when 1" + "+1".repeat(200) + "=201;"));
            Due.is("job(0, 0)", 0, x.job(0, 0));
            Due.is("the wax of a long job", turn, x.of(0, 0, 3));
        }
    }

    /** Eight that are open, with something to keep at each. */
    private static void deepTexts() {
        String in = "1=1";
        String out = "1=1";
        for (int level = 0; level < 8; level++) {
            in = "1=2 or 3=3 and(" + in + ")";
            out = "1=2 or 3=4 and(" + out + ")";
        }
        so(in, true);
        so(out, false);
        so(in.replace("(1=1)", "(1=2)"), false);
        so(in.replace("(1=1)", "(1=2 or 5=5 and 1+2*3>9-2*2)"), true);
        so(in.replace("(1=1)", "(1=2 or 5=5 and 1+2*3<9-2*1)"), false);
        so("not ".repeat(8) + "1=1", true);
        so("not ".repeat(7) + "1=1", false);
        so("not(".repeat(4) + "1=1" + ")".repeat(4), true);
        so("not(".repeat(3) + "1=1" + ")".repeat(3), false);
    }

    private static void toneOfNoMass() {
        Edge.says("Terms 1", "1000 times bend of all SLICES added, by mass of all added; 0, if that is 0.");
        RingBars x = lawed(3, "bend 0 7;bend 1 7;mass 1 1 when at=2;bend 2 7;mass 2 0-5;");
        Due.is("tone of no mass told", 0, x.tone(0, 0));
        Due.is("tone of the least mass", 21000, x.tone(0, 1));
        Due.is("tone of mass held to 0", 0, x.tone(0, 2));
        RingBars y = lawed(3, "mass 0 1;bend 1 1 when at=0;mass 1 99999;bend 2 0-9;mass 2 1;");
        Due.is("tone of no bend told", 0, y.tone(0, 0));
        Due.is("tone of the least bend and the most mass", 0, y.tone(0, 1));
        Due.is("tone of bend held to 0", 0, y.tone(0, 2));
        Due.is("tone of an empty law", 0, lawed(3, "").tone(0, 0));
    }

    private static void toneDownwards() {
        Edge.says("Terms", "Quotients go downwards (to the lesser one), where nothing else is told.");
        RingBars x = lawed(3, "bend 0 2 when at=0;mass 0 1;bend 1 1;mass 1 1001 when at=1;bend 2 1999 when at=2;mass 2 1000 when at=0;");
        Due.is("2000 by 3", 666, x.tone(0, 0));
        Due.is("3000 by 1001", 2, x.tone(0, 1));
        Due.is("1999000 by 1000", 1999, x.tone(0, 2));
        RingBars y = lawed(3, "bend 0 1 when at=0;mass 0 1000 when at=0;bend 1 1 when at=0;mass 1 1001 when at=0;"
            + "bend 2 1 when at=0;mass 2 999 when at=0;");
        Due.is("1000 by 1000", 1, y.tone(0, 0));
        Due.is("1000 by 1001", 0, y.tone(0, 1));
        Due.is("1000 by 999", 1, y.tone(0, 2));
    }

    private static void greatestTone() {
        RingBars x = lawed(16, "bend 0 99999;mass 0 1 when at=15;bend 1 99999*99999*4;mass 1 99999;");
        Due.is("all that bends by the least that weighs", 1599984000, x.tone(0, 0));
        Due.is("what wraps and is held", 1000, x.tone(0, 1));
    }

    private static void inForceAtFirst() {
        Edge.says("Terms 1", "THE LAW IN FORCE is 0 at first.");
        Edge.says("Promise 10", "THE LAW IN FORCE: what it was");
        RingBars x = lawed(3, "bend 0 5;mass 0 1;");
        Due.law(x, 1, "bend 0 6;mass 0 1;");
        Due.is("look(5) at first", 0, x.look(5));
        Due.is("tone by law 0", 5000, x.tone(0, 0));
        Due.is("force(0)", 0, x.force(0));
        Due.is("force(1)", 0, x.force(1));
        Due.is("tone by law 1", 6000, x.tone(0, 0));
        Due.is("force(1)", 1, x.force(1));
        Due.is("force(0)", 1, x.force(0));
        Due.is("tone by law 0", 5000, x.tone(0, 0));
    }

    private static void forceRefused() {
        Edge.says("Promise 10", "NONE if one can't be.");
        for (int law : new int[] {2, -1, 3, MOST, LEAST}) {
            Edge.refused("force(" + law + ")", -1, x -> x.force(law));
            Edge.refused("force(" + law + ") with law 1 in force", -1, x -> x.force(1), x -> x.force(law));
        }
    }

    private static void tellsRefused() {
        Edge.says("Promise 11", "NONE - 99999 if one can't be.");
        RingBars x = Edge.told();
        Due.is("tells(1, 2, 2, 1, 2)", 0, x.tells(1, 2, 2, 1, 2));
        Due.is("tells(1, 0, 2, 1, 2)", 5, x.tells(1, 0, 2, 1, 2));
        Due.is("tells(0, 0, 0, 0, 3)", 100, x.tells(0, 0, 0, 0, 3));
        Due.is("tells(0, 1, 0, 0, 3)", 9, x.tells(0, 1, 0, 0, 3));
        int[][] none = {{2, 0, 0, 0, 0}, {-1, 0, 0, 0, 0}, {0, 3, 0, 0, 0}, {0, -1, 0, 0, 0}, {0, 0, 3, 0, 0}, {0, 0, -1, 0, 0},
            {0, 0, 0, 2, 0}, {0, 0, 0, -1, 0}, {0, 0, 0, 0, 4}, {0, 0, 0, 0, -1}, {0, 0, 0, 1, 3}, {MOST, 0, 0, 0, 0},
            {LEAST, 0, 0, 0, 0}, {0, MOST, 0, 0, 0}, {0, LEAST, 0, 0, 0}, {0, 0, MOST, 0, 0}, {0, 0, LEAST, 0, 0},
            {0, 0, 0, MOST, 0}, {0, 0, 0, LEAST, 0}, {0, 0, 0, 0, MOST}, {0, 0, 0, 0, LEAST}};
        for (int[] n : none) {
            String call = "tells(" + n[0] + ", " + n[1] + ", " + n[2] + ", " + n[3] + ", " + n[4] + ")";
            Edge.refused(call, -100000, y -> y.tells(n[0], n[1], n[2], n[3], n[4]));
        }
    }

    private static void toneRefused() {
        Edge.says("Promise 12", "TONE K of a BAR by THE LAW IN FORCE; NONE if one can't be.");
        RingBars x = Edge.told();
        Due.is("tone(0, 0)", 13076, x.tone(0, 0));
        Due.is("tone(1, 2)", 0, x.tone(1, 2));
        x.force(1);
        Due.is("tone(1, 2) by law 1", 5333, x.tone(1, 2));
        int[][] none = {{0, 3}, {0, -1}, {0, MOST}, {0, LEAST}, {2, 0}, {-1, 0}, {MOST, 0}, {LEAST, 0}};
        for (int[] n : none) {
            Edge.refused("tone(" + n[0] + ", " + n[1] + ")", -1, y -> y.tone(n[0], n[1]));
        }
    }
}
