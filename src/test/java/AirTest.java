/** Promises 26 to 29: tubes, heat and wet, nights. */
public final class AirTest {
    public static void main(String[] args) {
        tubes();
        drift();
        stopper();
        nights();
        manyNights();
        together();
        Due.close();
    }

    private static RingBars plain(String law) {
        RingBars x = new RingBars();
        x.bar(4);
        Due.is(law, true, Due.law(x, 0, law) >= 0);
        return x;
    }

    private static void tubes() {
        RingBars x = plain("");
        int[][] wrong = {{0, 2, 5}, {0, -1, 5}, {0, 0, 0}, {0, 0, 10000}, {0, 0, -5}, {1, 0, 5}, {-1, 0, 5}};
        for (int[] w : wrong) {
            Due.is("tube" + java.util.Arrays.toString(w), false, x.tube(w[0], w[1], w[2]));
        }
        Due.is("a tube at first", 6620, x.in(0, 0, 0, 1));
        Due.is("a tube at first", 6620, x.in(0, 0, 0, 2));
        Due.is("tube(0, 0, 1)", true, x.tube(0, 0, 1));
        Due.is("tube(0, 1, 9999)", true, x.tube(0, 1, 9999));
        Due.is("the shortest tube in the cold", 3190000, x.in(0, -20, 0, 1));
        Due.is("the shortest tube in the heat", 3610000, x.in(0, 50, 99, 1));
        Due.is("the longest tube", 331, x.in(0, 0, 0, 2));
    }

    private static void drift() {
        RingBars x = plain("bend 0 thick;mass 0 1;drift heat*10+wet when heat>0;drift 0-wet*9;");
        Due.is("in heat", 20000 * (10000 - 199) / 10000, x.in(0, 10, 99, 0));
        Due.is("in wet", 20000 * (10000 + 90) / 10000, x.in(0, -20, 10, 0));
        // 1000 * 3370 by 500 is 6740
        Due.is("beat", 19602 - 6740, x.in(0, 10, 99, 1));
        x.tube(0, 1, 100);
        Due.is("beat of a tube above", 33700 - 19602, x.in(0, 10, 99, 2));
        int[][] wrong = {{0, 51, 0, 0}, {0, -21, 0, 0}, {0, 0, -1, 0}, {0, 0, 100, 0}, {0, 0, 0, 4}, {0, 0, 0, -1},
            {1, 0, 0, 0}, {-1, 0, 0, 0}};
        for (int[] w : wrong) {
            Due.is("in" + java.util.Arrays.toString(w), -1, x.in(w[0], w[1], w[2], w[3]));
        }
        Due.law(x, 1, "bend 0 99999;mass 0 1 when at=0;drift 0-99999;");
        x.force(1);
        // 399996000 times 1.9999
        Due.is("drift held, and a tone that drifts up", 799952000, x.in(0, 0, 0, 0));
        x.bar(16);
        Due.is("a tone that drifts beyond", 999999999, x.in(1, 0, 0, 0));
        Due.law(x, 1, "bend 0 5;mass 0 1;drift 99999;");
        Due.is("drift held, and a tone that drifts down", 0, x.in(0, 0, 0, 0));
        Due.law(x, 1, "bend 0 99;mass 0 1;drift at+size+mid+end+thick+grain+heavy+wax;");
        Due.is("drift has heat and wet alone", 99000, x.in(0, 0, 0, 0));
        Due.law(x, 1, "bend 0 99;mass 0 1;drift 5000 when size=0 and heat=7 and wet=8;");
        Due.is("drift has heat and wet alone in its condition", 49500, x.in(0, 7, 8, 0));
    }

    /** The stopper by its own words: all lengths are tried. */
    private static int tried(int heat, int aim) {
        int best = 1;
        for (int length = 2; length <= 9999; length++) {
            int air = 1000 * (3310 + 6 * heat);
            if (Math.abs(air / length - aim) < Math.abs(air / best - aim)) {
                best = length;
            }
        }
        return best;
    }

    private static void stopper() {
        RingBars x = plain("bend 0 thick;mass 0 1;");
        Due.is("stopper", tried(0, 20000), x.in(0, 0, 0, 3));
        Due.is("stopper of no law", 9970, plain("").in(0, 0, 0, 3));
        Due.is("stopper below all tubes", tried(50, 0), plain("").in(0, 50, 0, 3));
        for (int thick = 1; thick <= 99; thick += 7) {
            for (int mass : new int[] {1, 7, 60, 240, 330}) {
                RingBars y = plain("bend 0 thick;mass 0 " + mass + ";");
                for (int i = 0; i < 4; i++) {
                    y.slice(0, i, thick, 5, 5);
                }
                for (int heat : new int[] {-20, -3, 0, 17, 50}) {
                    Due.is("stopper in " + heat, tried(heat, y.tone(0, 0)), y.in(0, heat, 0, 3));
                }
            }
        }
        RingBars z = plain("bend 0 wax*1000+grain*100+heavy*10;mass 0 1 when at=0;");
        for (int wax = 0; wax <= 99; wax += 11) {
            for (int grain = 1; grain <= 9; grain += 4) {
                z.slice(0, 0, 20, grain, wax % 9 + 1);
                z.wax(0, 0, wax);
                Due.is("stopper of a high tone", tried(4, z.tone(0, 0)), z.in(0, 4, 0, 3));
            }
        }
        for (int aim = 318; aim <= 362; aim++) {
            RingBars low = plain("bend 0 " + aim + " when at=0;mass 0 1000 when at=0;");
            for (int heat = -20; heat <= 50; heat++) {
                Due.is("stopper of " + aim + " in " + heat, tried(heat, aim), low.in(0, heat, 0, 3));
            }
        }
        RingBars above = plain("bend 0 99999;mass 0 1 when at=0;");
        Due.is("stopper above all tubes", 1, above.in(0, 0, 0, 3));
    }

    private static void nights() {
        RingBars x = new RingBars();
        int[][] wrong = {{51, 0}, {-21, 0}, {0, -1}, {0, 100}};
        for (int[] w : wrong) {
            Due.is("night" + java.util.Arrays.toString(w), -1, x.night(w[0], w[1]));
        }
        Due.is("APART without nights", 0, x.nights(-1, 0));
        Due.is("night(-20, 0)", 0, x.night(-20, 0));
        Due.is("night(50, 99)", 1, x.night(50, 99));
        Due.is("WORST without bars", -1, x.nights(0, 0));
        Due.is("WORST without bars", -1, x.nights(0, 1));
        Due.is("SUITS without bars", 0, x.nights(0, 2));
        Due.is("TOGETHER without bars", 0, x.nights(0, 3));
        int[][] none = {{2, 0}, {-2, 0}, {0, 4}, {0, -1}, {Integer.MAX_VALUE, 0}};
        for (int[] n : none) {
            Due.is("nights" + java.util.Arrays.toString(n), -2, x.nights(n[0], n[1]));
        }
        x.bar(4);
        x.bar(4);
        x.bar(4);
        Due.law(x, 0, "bend 0 thick;mass 0 1;drift heat*100;");
        // in night 0 tones are 24000, 24000, 24000 and a tube of 500 sounds 6380; in night 1 10000 and 7220
        Due.is("WORST of three that are alike", 0, x.nights(0, 0));
        Due.is("SUITS of tunings that are alike", 0, x.nights(0, 2));
        x.tube(1, 0, 400);
        x.tube(2, 1, 499);
        Due.is("WORST by tuning 0", 0, x.nights(0, 0));
        Due.is("WORST by tuning 1", 0, x.nights(0, 1));
        x.tube(0, 0, 130);
        x.tube(0, 1, 132);
        // by tuning 0: 3190000 / 130 = 24538, 3190000 / 400 = 7975, 6380; by tuning 1: 24166, 6380, 6392
        Due.is("WORST by tuning 0", 2, x.nights(0, 0));
        Due.is("WORST by tuning 1", 1, x.nights(0, 1));
        Due.is("SUITS of beats that are alike", 0, x.nights(0, 2));
        x.tube(2, 0, 501);
        Due.is("SUITS of less", 1, x.nights(0, 2));
        // in night 1: 3610000 / 130 = 27769 is 17769 off, 3610000 / 132 = 27348 is 17348 off
        Due.is("WORST in night 1", 0, x.nights(1, 0));
        Due.is("SUITS in night 1", 1, x.nights(1, 2));
        Due.is("APART", 2, x.nights(-1, 0));
        Due.is("APART, whatever is asked", 2, x.nights(-1, 99));
        x.tube(0, 1, 120);
        Due.is("SUITS in night 1", 0, x.nights(1, 2));
        Due.is("APART", 1, x.nights(-1, -7));
    }

    private static void manyNights() {
        RingBars x = new RingBars();
        for (int n = 0; n < 20; n++) {
            Due.is("night", n, x.night(n, n));
        }
        Due.is("the 21st night", -1, x.night(0, 0));
        Due.is("look(1)", 20, x.look(1));
        Due.is("nights(19, 2)", 0, x.nights(19, 2));
        Due.is("nights(20, 2)", -2, x.nights(20, 2));
    }

    private static void together() {
        RingBars x = plain("bend 0 thick;mass 0 3;drift 333+heat;");
        x.night(1, 0);
        Due.is("TOGETHER of one bar", 0, x.nights(0, 3));
        x.bar(3);
        x.slice(1, 0, 41, 5, 5);
        // 80 by 12 and 81 by 9
        long a = 6666;
        long b = 9000;
        long far = Math.abs(a * 9666 / 10000 * b - b * 9666 / 10000 * a) / 1000;
        Due.is("tone 0 of bar 0", a, x.tone(0, 0));
        Due.is("tone 0 of bar 1", b, x.tone(1, 0));
        Due.is("TOGETHER of two bars", far, x.nights(0, 3));
        x.bar(3);
        x.slice(2, 0, 2, 5, 5);
        long c = 42000 / 9;
        long ac = Math.abs(a * 9666 / 10000 * c - c * 9666 / 10000 * a) / 1000;
        long bc = Math.abs(b * 9666 / 10000 * c - c * 9666 / 10000 * b) / 1000;
        Due.is("tone 0 of bar 2", c, x.tone(2, 0));
        Due.is("TOGETHER of three bars", Math.max(far, Math.max(ac, bc)), x.nights(0, 3));
        Due.law(x, 1, "bend 0 99999 when thick=20;bend 0 50000;mass 0 1 when at=1;drift 0-9000;");
        x.force(1);
        x.bar(16);
        // a tone that is held as it drifts is far from the others
        Due.is("TOGETHER beyond what is told", 999999999, x.nights(0, 3));
    }
}
