/** The boundaries of promises 26 to 29: tubes, heat and wet, nights. */
public final class EdgesOfAirTest {
    private static final int LEAST = Integer.MIN_VALUE;
    private static final int MOST = Integer.MAX_VALUE;

    public static void main(String[] args) {
        tubesAtFirst();
        lengths();
        tubeRefused();
        heatAndWet();
        driftsAtMost();
        driftsDownwards();
        tubeDownwards();
        beats();
        stopper();
        stopperOfSeveral();
        inRefused();
        twentyNights();
        nightRefused();
        worst();
        worstOfSeveral();
        suits();
        nightsAreAirs();
        apart();
        withoutBars();
        together();
        togetherAtMost();
        nightsRefused();
        Due.close();
    }

    private static RingBars lawed(int n, String law) {
        RingBars x = new RingBars();
        x.bar(n);
        Due.is("lines of " + law, true, Due.law(x, 0, law) >= 0);
        return x;
    }

    private static void tubesAtFirst() {
        Edge.says("Terms 4", "(500 both at first)");
        RingBars x = lawed(3, "");
        x.bar(16);
        for (int bar = 0; bar < 2; bar++) {
            Due.is("tuning 0 at first", 3310000 / 500, x.in(bar, 0, 0, 1));
            Due.is("tuning 1 at first", 3310000 / 500, x.in(bar, 0, 0, 2));
        }
    }

    private static void lengths() {
        Edge.says("Terms 4", "TUBES: one a BAR, LENGTH 1 .. 9999 for TUNING 0 and 1");
        RingBars x = lawed(3, "");
        x.bar(3);
        for (int tuning = 0; tuning < 2; tuning++) {
            for (int length : new int[] {1, 9999, 2, 9998}) {
                Due.is("tube(0, " + tuning + ", " + length + ")", true, x.tube(0, tuning, length));
                Due.is("what it sounds", 3310000 / length, x.in(0, 0, 0, 1 + tuning));
                Due.is("the other tuning", tuning == 0 ? 6620 : 331, x.in(0, 0, 0, 2 - tuning));
                Due.is("the other bar", 6620, x.in(1, 0, 0, 1 + tuning));
            }
        }
        for (int length : new int[] {0, 10000, -1, MOST, LEAST}) {
            Edge.denied("tube(0, 0, " + length + ")", y -> y.tube(0, 0, length));
            Edge.denied("tube(0, 1, " + length + ")", y -> y.tube(0, 1, length));
        }
    }

    private static void tubeRefused() {
        Edge.says("Promise 26", "LENGTH of a BAR's tube for a TUNING: true; false if one can't be.");
        int[][] none = {{0, 2}, {0, -1}, {0, MOST}, {0, LEAST}, {2, 0}, {-1, 0}, {MOST, 0}, {LEAST, 0}};
        for (int[] n : none) {
            Edge.denied("tube(" + n[0] + ", " + n[1] + ", 5)", y -> y.tube(n[0], n[1], 5));
        }
    }

    private static void heatAndWet() {
        Edge.says("Terms 4", "HEAT is -20 .. 50, WET 0 .. 99.");
        RingBars x = lawed(3, "bend 0 1000;mass 0 1;drift heat*100+wet;");
        int[][] airs = {{-20, 0}, {50, 0}, {-20, 99}, {50, 99}, {-19, 1}, {49, 98}, {0, 0}};
        for (int[] a : airs) {
            String air = "in heat " + a[0] + " and wet " + a[1];
            Due.is("tone " + air, 100 * (10000 - a[0] * 100 - a[1]), x.in(0, a[0], a[1], 0));
            int sounds = 1000 * (3310 + 6 * a[0]) / 500;
            for (int what = 1; what <= 2; what++) {
                Due.is("beat " + air, Math.abs(sounds - 100 * (10000 - a[0] * 100 - a[1])), x.in(0, a[0], a[1], what));
            }
            Due.is("stopper " + air, tried(a[0], 100 * (10000 - a[0] * 100 - a[1])), x.in(0, a[0], a[1], 3));
        }
        int[][] none = {{-21, 0}, {51, 0}, {0, -1}, {0, 100}, {MOST, 0}, {LEAST, 0}, {0, MOST}, {0, LEAST}, {-21, 100}};
        for (int[] n : none) {
            for (int what = 0; what < 4; what++) {
                Due.is("in(0, " + n[0] + ", " + n[1] + ", " + what + ")", -1, x.in(0, n[0], n[1], what));
            }
        }
    }

    private static void driftsAtMost() {
        Edge.says("Terms 4", "0 at least, 999999999 at most");
        String[][] cases = {
            // eleven slices of 99999 make a tone of 1099989000; 9091 parts of 10000 are 999999999.9
            {"bend 0 99999 when at<11;", "909", "999999999"},
            {"bend 0 99999 when at<11;", "908", "999999999"},
            {"bend 0 99999 when at<11;", "910", "999890001"},
            // tones of 999999000 and of 1000000000
            {"bend 0 99999 when at<10;bend 0 9 when at=10;", "0", "999999000"},
            {"bend 0 99999 when at<10;bend 0 10 when at=10;", "0", "999999999"},
            {"bend 0 99999 when at<10;bend 0 9 when at=10;", "0-1", "999999999"},
            {"bend 0 99999;", "0-9999", "999999999"},
            {"bend 0 99999;", "9999", "159998"},
            {"bend 0 99999 when at=0;", "0-9999", "199988000"},
        };
        for (String[] c : cases) {
            RingBars x = lawed(16, c[0] + "mass 0 1 when at=0;drift " + c[1] + ";");
            Due.is("a tone that drifts by " + c[1] + " with " + c[0], Integer.parseInt(c[2]), x.in(0, 0, 0, 0));
            Due.is("its beat", Integer.parseInt(c[2]) - 6620, x.in(0, 0, 0, 1));
        }
        RingBars x = lawed(3, "bend 0 9 when at=0;mass 0 1000 when at=0;drift 9999;");
        Due.is("the least that is left of a small tone", 0, x.in(0, 0, 0, 0));
        Due.is("a tone of 0 that drifts", 0, lawed(3, "drift 0-9999;").in(0, 0, 0, 0));
    }

    private static void driftsDownwards() {
        Edge.says("Terms 4", "TONE times (10000 less drift) by 10000");
        int[][] cases = {{9999, 1, 9998}, {10000, 1, 9999}, {10001, 1, 9999}, {20000, 1, 19998}, {19999, 1, 19997}, {1, 1, 0},
            {9999, -1, 9999}, {10000, -1, 10001}, {10001, -1, 10002}, {3, 5000, 1}, {3, 5001, 1}, {3, 6667, 0}, {3, 6666, 1}};
        for (int[] c : cases) {
            RingBars x = lawed(3, "bend 0 " + c[0] + " when at=0;mass 0 1000 when at=0;drift " + (c[1] < 0 ? "0" : "") + c[1] + ";");
            Due.is("tone", c[0], x.tone(0, 0));
            Due.is("tone " + c[0] + " that drifts by " + c[1], c[2], x.in(0, 0, 0, 0));
        }
    }

    private static void tubeDownwards() {
        Edge.says("Terms 4", "it sounds 1000 times (3310 and 6 HEAT) by LENGTH.");
        RingBars x = lawed(3, "");
        int[] heats = {-20, 0, 1, 50};
        int[] lengths = {1, 7, 9999, 3310, 9970, 9969};
        for (int heat : heats) {
            for (int length : lengths) {
                x.tube(0, 0, length);
                Due.is("a tube of " + length + " in heat " + heat, (3310000 + 6000 * heat) / length, x.in(0, heat, 0, 1));
            }
        }
    }

    private static void beats() {
        Edge.says("Terms 4", "how far its tube is from TONE 0 as it DRIFTS.");
        // tone 0 is 1000 times the wax and what is thick of slice 0
        RingBars x = lawed(3, "bend 0 wax+thick when at=0;mass 0 1 when at=0;");
        x.slice(0, 0, 20, 5, 5);
        x.tube(0, 0, 165);
        x.tube(0, 1, 166);
        // the tubes sound 20060 and 19939
        Due.is("beat of a tube above", 60, x.in(0, 0, 0, 1));
        Due.is("beat of a tube below", 61, x.in(0, 0, 0, 2));
        x.tube(0, 0, 331);
        x.slice(0, 0, 10, 5, 5);
        Due.is("beat of none", 0, x.in(0, 0, 0, 1));
    }

    /** The stopper by its own words: all lengths are tried. */
    private static int tried(int heat, int aim) {
        int best = 1;
        for (int length = 2; length <= 9999; length++) {
            int air = 1000 * (3310 + 6 * heat);
            if (Math.abs(air / length - aim) < Math.abs(air / best - aim)) {
                best = length;
            }
        }
        return best;
    }

    private static void stopper() {
        Edge.says("Terms 4", "STOPPER: the LENGTH with the least BEAT");
        // tones from below all tubes to above them, in the coldest and the hottest air
        for (int heat : new int[] {-20, 0, 50}) {
            int low = (3310000 + 6000 * heat) / 9999;
            int high = 3310000 + 6000 * heat;
            for (int aim : new int[] {0, 1, low - 1, low, low + 1, low + 2, 1000, 1819, 1820, 54321, 99999}) {
                RingBars x = lawed(3, "bend 0 " + aim + " when at=0;mass 0 1000 when at=0;");
                Due.is("tone", aim, x.tone(0, 0));
                Due.is("stopper of " + aim + " in " + heat, tried(heat, aim), x.in(0, heat, 0, 3));
            }
            for (int bend : new int[] {high / 1000 - 1, high / 1000, high / 1000 + 1, high / 2000, high / 2000 + 1, high * 3 / 4000,
                high * 3 / 4000 + 1, 99999}) {
                RingBars x = lawed(3, "bend 0 " + bend + " when at=0;mass 0 1 when at=0;");
                Due.is("stopper of " + bend + "000 in " + heat, tried(heat, 1000 * bend), x.in(0, heat, 0, 3));
            }
        }
        RingBars x = lawed(16, "bend 0 99999;mass 0 1 when at=0;");
        Due.is("stopper of the greatest tone", 1, x.in(0, 0, 0, 3));
        // of the tone as it drifts, whatever the tubes are
        RingBars y = lawed(3, "bend 0 1000;mass 0 30;drift heat*99;");
        y.tube(0, 0, 7);
        Due.is("stopper of a tone that drifts", tried(50, y.in(0, 50, 0, 0)), y.in(0, 50, 0, 3));
        Due.is("a tone that drifts is another", false, y.in(0, 50, 0, 0) == y.tone(0, 0));
    }

    private static void stopperOfSeveral() {
        Edge.says("Terms 4", "STOPPER: the LENGTH with the least BEAT; of several the least.");
        // in heat 0 tubes of 9970 to 9999 sound 331, of 9940 to 9969 332
        Due.is("stopper of the lowest tubes", 9970, lawed(3, "").in(0, 0, 0, 3));
        RingBars x = lawed(3, "bend 0 331 when at=0;mass 0 1000 when at=0;");
        Due.is("stopper of 331", 9970, x.in(0, 0, 0, 3));
        RingBars y = lawed(3, "bend 0 332 when at=0;mass 0 1000 when at=0;");
        Due.is("stopper of 332", 9940, y.in(0, 0, 0, 3));
        // tubes of 1 and 2 sound 3310000 and 1655000: between them one above and one below are as far
        RingBars z = lawed(3, "bend 0 2482 when at=0;bend 0 1 when at=1;mass 0 1 when at=0;");
        Due.is("tone", 2483000, z.tone(0, 0));
        Due.is("stopper just above the middle", 1, z.in(0, 0, 0, 3));
        Due.law(z, 0, "bend 0 4965 when at=0;mass 0 2 when at=0;");
        Due.is("tone", 2482500, z.tone(0, 0));
        Due.is("stopper at the middle: of both the least", 1, z.in(0, 0, 0, 3));
        Due.law(z, 0, "bend 0 4964 when at=0;mass 0 2 when at=0;");
        Due.is("stopper just below the middle", 2, z.in(0, 0, 0, 3));
    }

    private static void inRefused() {
        Edge.says("Promise 27", "NONE if one can't be, or another what.");
        int[][] none = {{0, 51, 0, 0}, {0, -21, 0, 1}, {0, 0, 100, 2}, {0, 0, -1, 3}, {0, 0, 0, 4}, {0, 0, 0, -1}, {0, 0, 0, MOST},
            {0, 0, 0, LEAST}, {2, 0, 0, 0}, {-1, 0, 0, 0}, {MOST, 0, 0, 0}, {LEAST, 0, 0, 0}};
        for (int[] n : none) {
            String call = "in(" + n[0] + ", " + n[1] + ", " + n[2] + ", " + n[3] + ")";
            Edge.refused(call, -1, y -> y.in(n[0], n[1], n[2], n[3]));
        }
        Edge.refused("in(0, 9, 9, 3)", 262, y -> y.in(0, 9, 9, 3));
    }

    private static void twentyNights() {
        Edge.says("Terms 4", "NIGHTS 0 .. 19 as they come: HEAT, WET.");
        Edge.says("Promise 28", "A NIGHT: its number; NONE if one can't be, or there are 20.");
        RingBars x = lawed(3, "bend 0 1000;mass 0 100;drift heat*100 when wet>9;");
        // a tube that suits where the tone has drifted to half of it
        x.tube(0, 1, 700);
        for (int n = 0; n < 20; n++) {
            Due.is("night " + n, n, x.night(n == 19 ? 50 : 0, n == 19 ? 99 : n));
        }
        Due.is("night 20", -1, x.night(1, 1));
        Due.is("night 21", -1, x.night(51, 1));
        Due.is("look(1)", 20, x.look(1));
        Due.is("night 0 suits", 0, x.nights(0, 2));
        Due.is("night 18 suits", 0, x.nights(18, 2));
        Due.is("night 19 suits", 1, x.nights(19, 2));
        Due.is("nights(20, 2)", -2, x.nights(20, 2));
        Due.is("APART", 1, x.nights(-1, 0));
        Edge.refused("the 21st night", -1, y -> {
            for (int n = 2; n < 20; n++) {
                Due.is("night " + n, n, y.night(n, n));
            }
        }, y -> y.night(0, 0));
    }

    private static void nightRefused() {
        RingBars x = new RingBars();
        int[][] can = {{-20, 0}, {50, 0}, {0, 99}, {-20, 99}, {50, 99}, {-19, 98}, {49, 1}};
        for (int n = 0; n < can.length; n++) {
            Due.is("night(" + can[n][0] + ", " + can[n][1] + ")", n, x.night(can[n][0], can[n][1]));
        }
        int[][] none = {{-21, 0}, {51, 0}, {0, -1}, {0, 100}, {MOST, 0}, {LEAST, 0}, {0, MOST}, {0, LEAST}};
        for (int[] n : none) {
            Edge.refused("night(" + n[0] + ", " + n[1] + ")", -1, y -> y.night(n[0], n[1]));
        }
    }

    /** Bars that are all alike but for their tubes, in a night of heat 0. */
    private static RingBars alike(int bars) {
        RingBars x = new RingBars();
        Due.law(x, 0, "bend 0 thick;mass 0 1;");
        for (int b = 0; b < bars; b++) {
            x.bar(3);
        }
        x.night(0, 0);
        return x;
    }

    private static void worst() {
        Edge.says("Terms 4", "WORST of a NIGHT by a TUNING: the BAR with the greatest BEAT");
        for (int far = 0; far < 10; far++) {
            RingBars x = alike(10);
            x.tube(far, 0, 501);
            x.tube(9 - far, 1, 501);
            Due.is("WORST by tuning 0", far, x.nights(0, 0));
            Due.is("WORST by tuning 1", 9 - far, x.nights(0, 1));
        }
        // above or below the tone, whichever is farther: tone 20000, tubes of 84 and 85 sound 39404 and 38941
        RingBars x = alike(2);
        x.tube(0, 0, 84);
        x.tube(1, 0, 5000);
        Due.is("WORST above 19338", 0, x.nights(0, 0));
        x.tube(0, 0, 85);
        Due.is("WORST below 18941", 1, x.nights(0, 0));
    }

    private static void worstOfSeveral() {
        Edge.says("Terms 4", "(of several the first)");
        RingBars x = alike(10);
        Due.is("WORST of ten that are alike", 0, x.nights(0, 0));
        Due.is("WORST of ten that are alike", 0, x.nights(0, 1));
        for (int b = 4; b < 10; b++) {
            x.tube(b, 0, 9999);
            x.tube(b, 1, 9998);
        }
        Due.is("WORST of six that are alike", 4, x.nights(0, 0));
        Due.is("WORST of six that are alike", 4, x.nights(0, 1));
        // bars whose beat is 0
        RingBars y = new RingBars();
        y.bar(3);
        y.bar(3);
        Due.law(y, 0, "bend 0 3310;mass 0 500;");
        y.night(0, 0);
        Due.is("tone", 6620, y.tone(0, 0));
        Due.is("WORST of beats that are 0", 0, y.nights(0, 0));
        y.tube(1, 0, 499);
        Due.is("WORST of one beat that is not 0", 1, y.nights(0, 0));
    }

    private static void suits() {
        Edge.says("Terms 4", "SUITS: the TUNING by which the WORST one's BEAT is less (of both 0).");
        RingBars x = alike(2);
        Due.is("SUITS of both", 0, x.nights(0, 2));
        // a longer tube is farther below the tone
        x.tube(0, 0, 500);
        x.tube(0, 1, 501);
        Due.is("SUITS, tuning 0 being less", 0, x.nights(0, 2));
        x.tube(0, 0, 502);
        Due.is("SUITS, tuning 1 being less", 1, x.nights(0, 2));
        x.tube(1, 1, 503);
        Due.is("SUITS, the worst of tuning 1 being another bar", 0, x.nights(0, 2));
        x.tube(1, 0, 503);
        Due.is("SUITS of both", 0, x.nights(0, 2));
        // by tuning 0 bar 0 is the worst, by tuning 1 bar 1, which by tuning 0 is better than bar 0 by tuning 1
        RingBars y = alike(2);
        y.tube(0, 0, 900);
        y.tube(1, 0, 300);
        y.tube(0, 1, 300);
        y.tube(1, 1, 800);
        Due.is("WORST by tuning 0", 0, y.nights(0, 0));
        Due.is("WORST by tuning 1", 1, y.nights(0, 1));
        Due.is("SUITS, the worst ones being unlike", 1, y.nights(0, 2));
        y.tube(1, 1, 900);
        Due.is("SUITS of worst ones that are alike", 0, y.nights(0, 2));
    }

    /** A night's heat and wet count each for itself: what a night tells is what the same air tells of each bar. */
    private static void nightsAreAirs() {
        int[][] airs = {{-20, 0}, {-20, 99}, {50, 0}, {50, 99}, {7, 41}, {41, 7}};
        String[] drifts = {"heat*100", "wet*100-5000", "heat*90-wet*10", "0-heat-wet*50"};
        for (String drift : drifts) {
            RingBars x = lawed(3, "bend 0 thick;mass 0 1;drift " + drift + ";");
            x.bar(4);
            x.slice(1, 0, 99, 5, 5);
            for (int bar = 0; bar < 2; bar++) {
                x.tube(bar, 0, 170 - 60 * bar);
                x.tube(bar, 1, 190 - 90 * bar);
            }
            for (int n = 0; n < airs.length; n++) {
                int heat = airs[n][0];
                int wet = airs[n][1];
                x.night(heat, wet);
                int[] worst = new int[2];
                int[] beat = new int[2];
                for (int t = 0; t < 2; t++) {
                    worst[t] = x.in(1, heat, wet, 1 + t) > x.in(0, heat, wet, 1 + t) ? 1 : 0;
                    beat[t] = x.in(worst[t], heat, wet, 1 + t);
                    Due.is("WORST by tuning " + t + " in " + heat + ", " + wet + " by " + drift, worst[t], x.nights(n, t));
                }
                Due.is("SUITS in " + heat + ", " + wet + " by " + drift, beat[1] < beat[0] ? 1 : 0, x.nights(n, 2));
                long far = (long) x.in(0, heat, wet, 0) * x.tone(1, 0) - (long) x.in(1, heat, wet, 0) * x.tone(0, 0);
                Due.is("TOGETHER in " + heat + ", " + wet + " by " + drift, Math.abs(far) / 1000, x.nights(n, 3));
            }
        }
    }

    private static void apart() {
        Edge.says("Terms 4", "APART: how many NIGHTS there are for which TUNING 1 SUITS.");
        RingBars x = lawed(3, "bend 0 1000;mass 0 100;drift heat*100;");
        Due.is("APART without nights", 0, x.nights(-1, 0));
        // tone 10000 drifts to 10000 less 100 times heat; tubes sound some 6600 and 9900
        x.tube(0, 1, 333);
        for (int n = 0; n < 20; n++) {
            x.night(n < 7 ? 50 : -20, 0);
        }
        Due.is("APART", 13, x.nights(-1, 0));
        for (int what : new int[] {1, 2, 3, 4, -1, MOST, LEAST}) {
            Due.is("APART, what not asked", 13, x.nights(-1, what));
        }
        x.tube(0, 0, 333);
        x.tube(0, 1, 500);
        Due.is("APART, the tubes changed", 7, x.nights(-1, 0));
        x.tube(0, 0, 500);
        Due.is("APART of both", 0, x.nights(-1, 0));
    }

    private static void withoutBars() {
        Edge.says("Promise 29", "Of a NIGHT what 0, 1 WORST by TUNING 0, 1 (NONE without BARS), 2 which SUITS (0 without BARS), 3 TOGETHER; night NONE: APART (what not asked).");
        RingBars x = new RingBars();
        x.night(10, 10);
        int[] want = {-1, -1, 0, 0};
        for (int what = 0; what < 4; what++) {
            Due.is("nights(0, " + what + ") without bars", want[what], x.nights(0, what));
        }
        Due.is("APART without bars", 0, x.nights(-1, 0));
        x.bar(3);
        for (int what = 0; what < 4; what++) {
            Due.is("nights(0, " + what + ") of one bar", 0, x.nights(0, what));
        }
    }

    private static void together() {
        Edge.says("Terms 4", "0 without couples");
        // tones of 9999 and 5050 drift by 1 in 10000 to 9998 and 5049
        RingBars x = lawed(3, "bend 0 wax*101+thick-20 when at=0;mass 0 1000 when at=0;drift wet;");
        x.night(0, 1);
        x.wax(0, 0, 99);
        Due.is("tone of bar 0", 9999, x.tone(0, 0));
        Due.is("TOGETHER of one bar", 0, x.nights(0, 3));
        x.bar(3);
        x.wax(1, 0, 50);
        Due.is("tone of bar 1", 5050, x.tone(1, 0));
        // 9998 * 5050 - 5049 * 9999 is 4949
        Due.is("TOGETHER of one couple", 4, x.nights(0, 3));
        x.bar(3);
        Due.is("TOGETHER with a tone of 0", 4, x.nights(0, 3));
        // the couple of the first and the last, or of the last two, may be the most
        x.wax(2, 0, 1);
        x.slice(2, 0, 21, 5, 5);
        Due.is("tone of bar 2", 102, x.tone(2, 0));
        // 9998 * 102 - 101 * 9999 is 9897, and 5049 * 102 - 101 * 5050 is 4948
        Due.is("TOGETHER of three couples", 9, x.nights(0, 3));
        x.wax(0, 0, 1);
        x.slice(0, 0, 21, 5, 5);
        Due.is("TOGETHER of the last two", 4, x.nights(0, 3));
        x.night(0, 0);
        Due.is("TOGETHER without drift", 0, x.nights(1, 3));
    }

    private static void togetherAtMost() {
        Edge.says("Terms 4", "by 1000, the most (999999999 at most");
        // a tone of 1001001000 is held to 999999999 as it drifts, which is 1001001 less; times 999000, by 1000, is 999999999
        RingBars x = lawed(16, "bend 0 99999 when size=16 and at<10;bend 0 1011 when size=16 and at=10;"
            + "bend 0 901+wax when size=3 and at=0;mass 0 1 when at=0;");
        x.bar(3);
        x.night(0, 0);
        int[][] cases = {{97, 998998998}, {98, 999999999}, {99, 999999999}, {0, 901901901}};
        for (int[] c : cases) {
            x.wax(1, 0, c[0]);
            Due.is("TOGETHER with wax " + c[0], c[1], x.nights(0, 3));
        }
        // bars told the other way round are as far apart
        RingBars y = lawed(3, "bend 0 99999 when size=16 and at<10;bend 0 1011 when size=16 and at=10;"
            + "bend 0 998 when size=3 and at=0;mass 0 1 when at=0;");
        y.bar(16);
        y.night(0, 0);
        Due.is("TOGETHER the other way round", 998998998, y.nights(0, 3));
        // the greatest there can be: tones of 1599984000 and of 999999000
        RingBars z = lawed(16, "bend 0 99999 when size=16;bend 0 99999 when at<10;bend 0 9 when at=10;mass 0 1 when at=0;");
        z.bar(15);
        z.night(0, 0);
        Due.is("TOGETHER far beyond", 999999999, z.nights(0, 3));
    }

    private static void nightsRefused() {
        Edge.says("Promise 29", "NONE - 1 if there is none such, or another what.");
        int[][] none = {{2, 0}, {2, 3}, {-2, 0}, {MOST, 0}, {LEAST, 0}, {0, 4}, {0, -1}, {1, MOST}, {1, LEAST}, {20, 0}};
        for (int[] n : none) {
            Edge.refused("nights(" + n[0] + ", " + n[1] + ")", -2, y -> y.nights(n[0], n[1]));
        }
        Due.is("nights(0, 0) of a new object", -2, new RingBars().nights(0, 0));
        Edge.refused("nights(1, 3)", 9, y -> y.nights(1, 3));
    }
}
