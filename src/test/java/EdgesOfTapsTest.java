/** The boundaries of promises 21 to 23: taps, rows of grains that fit them, how far laws are off. */
public final class EdgesOfTapsTest {
    private static final int LEAST = Integer.MIN_VALUE;
    private static final int MOST = Integer.MAX_VALUE;

    public static void main(String[] args) {
        heard();
        twelve();
        tapRefused();
        fiveSlices();
        mostGrain();
        doubts();
        notFartherThanTheDoubt();
        allTwelveCount();
        asThen();
        sure();
        noFits();
        nextPass();
        nextPassOfManyNumbers();
        smallerBehindLarger();
        nextPassOfThinSlices();
        nextPassOfSeveral();
        whatIsAsked();
        fitsRefused();
        offAtMost();
        offOfAllTaps();
        offByGrainsAsTheyAre();
        fitting();
        offRefused();
        Due.close();
    }

    private static RingBars lawed(int n, String law) {
        RingBars x = new RingBars();
        x.bar(n);
        Due.is("lines of " + law, true, Due.law(x, 0, law) >= 0);
        return x;
    }

    private static void heard() {
        Edge.says("Terms 3", "a TONE 0 .. 2 was heard as 0 .. 9999999");
        RingBars x = lawed(3, "");
        int count = 0;
        for (int k = 0; k < 3; k++) {
            for (int v : new int[] {0, 1, 9999999, 9999998}) {
                count++;
                Due.is("tap(0, " + k + ", " + v + ")", count, x.tap(0, k, v));
            }
        }
        Due.is("state(0, 8)", 12, x.state(0, 8));
        Due.is("off(0)", 3 * 19999998, x.off(0));
        for (int v : new int[] {-1, 10000000, MOST, LEAST}) {
            Edge.refused("tap(0, 0, " + v + ")", -1, y -> y.tap(0, 0, v));
        }
        for (int k : new int[] {-1, 3, MOST, LEAST}) {
            Edge.refused("tap(0, " + k + ", 5)", -1, y -> y.tap(0, k, 5));
        }
    }

    private static void twelve() {
        Edge.says("Terms 3", "TAPS (12 a BAR)");
        Edge.says("Promise 21", "A TAP: how many the BAR has; NONE if one can't be, or it has 12.");
        RingBars x = lawed(3, "");
        x.bar(3);
        for (int t = 1; t <= 12; t++) {
            Due.is("tap " + t, t, x.tap(0, 0, 100 * t));
            Due.is("state(0, 8)", t, x.state(0, 8));
        }
        Due.is("tap 13", -1, x.tap(0, 0, 1));
        Due.is("state(0, 8)", 12, x.state(0, 8));
        Due.is("off(0) of twelve", 7800, x.off(0));
        Due.is("a tap of another bar", 1, x.tap(1, 2, 1));
        Due.is("state(1, 8)", 1, x.state(1, 8));
        Edge.refused("tap 13", -1, y -> {
            for (int t = 3; t <= 12; t++) {
                Due.is("tap " + t, t, y.tap(0, 0, 15000 + t));
            }
        }, y -> y.tap(0, 0, 1));
    }

    private static void tapRefused() {
        for (int bar : new int[] {2, -1, MOST, LEAST}) {
            Edge.refused("tap(" + bar + ", 0, 5)", -1, y -> y.tap(bar, 0, 5));
        }
        Due.is("tap of the last bar", 1, Edge.told().tap(1, 0, 5));
    }

    private static void fiveSlices() {
        Edge.says("Terms 3", "FITS of a BAR with up to 5 SLICES");
        Edge.says("Promise 22", "one can't be (more than 5 SLICES)");
        int rows = 64;
        for (int n = 3; n <= 16; n++) {
            RingBars x = lawed(n, "bend 0 grain;mass 0 1;");
            Due.is("fits of " + n + " slices", n <= 5 ? rows : -1, x.fits(0, 4, 0, 0));
            Due.is("next pass of " + n + " slices", n <= 5 ? 0 : -1, x.fits(0, 4, 0, 1));
            Due.is("sure of " + n + " slices", n <= 5 ? 1 : -1, x.fits(0, 1, 0, 10));
            rows *= 4;
        }
    }

    private static void mostGrain() {
        Edge.says("Terms 3", "for MOST (1 .. 4)");
        for (int n = 3; n <= 5; n++) {
            RingBars x = lawed(n, "bend 0 grain;mass 0 1 when at=0;");
            for (int most = 1; most <= 4; most++) {
                int rows = 1;
                for (int i = 0; i < n; i++) {
                    rows *= most;
                }
                Due.is("fits of most " + most, rows, x.fits(0, most, 0, 0));
            }
            // all slices with the greatest grain: one row of most 4, none of less
            x.tap(0, 0, 4000 * n);
            Due.is("fits of all 4", 1, x.fits(0, 4, 0, 0));
            Due.is("sure of the last", 4, x.fits(0, 4, 0, 9 + n));
            Due.is("fits of most 3", 0, x.fits(0, 3, 0, 0));
            for (int most : new int[] {0, 5, -1, 9, MOST, LEAST}) {
                Due.is("fits(0, " + most + ", 0, 0)", -1, x.fits(0, most, 0, 0));
            }
        }
        RingBars y = lawed(3, "bend 0 grain;mass 0 1 when at=0;");
        y.tap(0, 0, 3000);
        Due.is("fits of all 1", 1, y.fits(0, 4, 0, 0));
        Due.is("sure of the first", 1, y.fits(0, 4, 0, 10));
    }

    private static void doubts() {
        Edge.says("Terms 3", "and a doubt (0 .. 99999)");
        RingBars x = lawed(3, "bend 0 grain;mass 0 1 when at=0;");
        // rows make 3000 to 12000; what is heard is 99999 and 100000 off the greatest one
        x.tap(0, 0, 111999);
        Due.is("fits of the greatest doubt", 1, x.fits(0, 4, 99999, 0));
        Due.is("fits of one less", 0, x.fits(0, 4, 99998, 0));
        RingBars y = lawed(3, "bend 0 grain;mass 0 1 when at=0;");
        y.tap(0, 0, 112000);
        Due.is("fits of the greatest doubt, one too far", 0, y.fits(0, 4, 99999, 0));
        for (int doubt : new int[] {-1, 100000, MOST, LEAST}) {
            Due.is("fits(0, 4, " + doubt + ", 0)", -1, x.fits(0, 4, doubt, 0));
            Due.is("fits(0, 4, " + doubt + ", 10)", -1, x.fits(0, 4, doubt, 10));
        }
    }

    private static void notFartherThanTheDoubt() {
        Edge.says("Terms 3", "for which each TAP is not farther than the doubt from what the LAW IN FORCE tells");
        // of grains 1 and 2 there are 1, 3, 3, 1 rows that make 3000, 4000, 5000, 6000
        int[][] cases = {{4000, 0, 3}, {4001, 0, 0}, {3999, 0, 0}, {4001, 1, 3}, {3999, 1, 3}, {4500, 499, 0}, {4500, 500, 6},
            {4000, 999, 3}, {4000, 1000, 7}, {5000, 1000, 7}, {4999, 1000, 6}, {5001, 1000, 4}, {0, 2999, 0}, {0, 3000, 1},
            {9000, 3000, 1}, {9000, 2999, 0}, {9000, 6000, 8}};
        for (int[] c : cases) {
            RingBars x = lawed(3, "bend 0 grain;mass 0 1 when at=0;");
            x.tap(0, 0, c[0]);
            Due.is("fits of " + c[0] + " within " + c[1], c[2], x.fits(0, 2, c[1], 0));
        }
        // by the law in force
        RingBars x = lawed(3, "bend 0 grain;mass 0 1 when at=0;");
        Due.law(x, 1, "bend 0 grain when at=1;mass 0 1 when at=0;");
        x.tap(0, 0, 2000);
        Due.is("fits by law 0", 0, x.fits(0, 2, 0, 0));
        x.force(1);
        Due.is("fits by law 1", 4, x.fits(0, 2, 0, 0));
    }

    /** Twelve taps of five slices, each of which leaves fewer rows, the twelfth as well as the first. */
    private static void allTwelveCount() {
        // tap t hears the slice that has wax then, or two of them
        RingBars x = lawed(5, "bend 0 grain when wax=1;bend 0 0;mass 0 1 when at=0;bend 1 grain*wax;mass 1 1 when at=0;"
            + "bend 2 grain*thick;mass 2 1 when at=0;");
        for (int t = 1; t <= 7; t++) {
            x.tap(0, 0, 0);
        }
        Due.is("fits of taps that tell nothing", 1024, x.fits(0, 4, 0, 0));
        int rows = 1024;
        for (int i = 0; i < 5; i++) {
            x.wax(0, i, 1);
            Due.is("tap " + (8 + i), 8 + i, x.tap(0, 0, 1000 * (4 - i % 4)));
            x.wax(0, i, 0);
            rows /= 4;
            Due.is("fits of " + (8 + i) + " taps", rows, x.fits(0, 4, 0, 0));
            Due.is("sure of " + i, 4 - i % 4, x.fits(0, 4, 0, 10 + i));
            Due.is("not sure of the next", -1, x.fits(0, 4, 0, 11 + i));
        }
        int[] grains = {4, 3, 2, 1, 4};
        for (int i = 0; i < 5; i++) {
            Due.is("sure of " + i, grains[i], x.fits(0, 4, 0, 10 + i));
        }
    }

    private static void asThen() {
        Edge.says("Terms 3", "with these GRAINS and THICK, WAX as then");
        for (int n = 3; n <= 5; n++) {
            RingBars x = lawed(n, "bend 0 grain*thick+wax;mass 0 1 when at=0;");
            int last = n - 1;
            x.wax(0, last, 9);
            // all grains 2
            x.tap(0, 0, 1000 * (40 * n + 9));
            x.wax(0, last, 50);
            x.shave(0, last, 5);
            x.tap(0, 0, 1000 * (40 * n - 10 + 50));
            x.wax(0, last, 1);
            x.shave(0, last, 5);
            x.shave(0, 0, 7);
            Due.is("sure of the last of " + n, 2, x.fits(0, 2, 0, 10 + last));
            Due.is("fits of " + n, 1, x.fits(0, 2, 0, 0));
        }
        // off() too: thick and wax as then
        RingBars x = lawed(16, "bend 0 grain*thick+wax;mass 0 1 when at=0;");
        x.wax(0, 15, 9);
        x.tap(0, 0, 1000 * (5 * 20 * 16 + 9));
        x.wax(0, 15, 99);
        x.shave(0, 15, 9);
        Due.is("off of sixteen slices as then", 0, x.off(0));
    }

    private static void sure() {
        Edge.says("Terms 3", "SURE: the GRAIN of a SLICE, if it is the same in all.");
        RingBars x = lawed(3, "bend 0 grain when at=1;mass 0 1 when at=0;");
        Due.is("sure without taps", -1, x.fits(0, 2, 0, 11));
        Due.is("sure of most 1", 1, x.fits(0, 1, 0, 11));
        x.tap(0, 0, 2000);
        Due.is("sure of slice 1", 2, x.fits(0, 4, 0, 11));
        Due.is("not sure of slice 0", -1, x.fits(0, 4, 0, 10));
        Due.is("not sure of slice 2", -1, x.fits(0, 4, 0, 12));
        Due.is("not sure within a doubt", -1, x.fits(0, 4, 1000, 11));
        Due.is("sure within a doubt that is too small", 2, x.fits(0, 4, 999, 11));
        // sure of none but the first or the last
        RingBars y = lawed(5, "bend 0 grain when end=0;mass 0 1 when at=0;");
        y.tap(0, 0, 8000);
        Due.is("sure of the first", 4, y.fits(0, 4, 0, 10));
        Due.is("not sure of the second", -1, y.fits(0, 4, 0, 11));
        Due.is("sure of the last", 4, y.fits(0, 4, 0, 14));
    }

    private static void noFits() {
        Edge.says("Promise 22", "NONE if there is none such (no FITS; not SURE)");
        RingBars x = lawed(3, "bend 0 grain;mass 0 1 when at=0;");
        x.tap(0, 0, 2999);
        Due.is("no fits", 0, x.fits(0, 4, 0, 0));
        Due.is("next pass without fits", -1, x.fits(0, 4, 0, 1));
        for (int i = 0; i < 3; i++) {
            Due.is("sure without fits", -1, x.fits(0, 1, 0, 10 + i));
        }
        Due.is("one fit", 1, x.fits(0, 4, 1, 0));
        Due.is("next pass of one fit", 0, x.fits(0, 4, 1, 1));
        Due.is("sure of one fit", 1, x.fits(0, 4, 1, 12));
    }

    private static void nextPass() {
        Edge.says("Terms 3", "NEXT PASS: the SLICE (THICK above 1) for which, with a PASS of 1, TONE 0 has most unlike numbers over all FITS");
        // a pass of slice 0 tells nothing, of slice 1 its own grain, of slice 2 the grains of all
        RingBars x = lawed(3, "bend 0 grain when at=1 and thick=19;bend 0 grain*16 when at=2 and thick=19;bend 0 0;mass 0 1 when at=0;");
        Due.is("next pass, as many of two slices", 1, x.fits(0, 4, 0, 1));
        Due.law(x, 0, "bend 0 grain/2 when at=1 and thick=19;bend 0 grain*16 when at=2 and thick=19;bend 0 0;mass 0 1 when at=0;");
        Due.is("next pass, more of the later one", 2, x.fits(0, 4, 0, 1));
        Due.is("next pass of one row, the least", 0, x.fits(0, 1, 0, 1));
        // tone 0 alone counts, whatever taps were heard
        x.tap(0, 1, 0);
        x.tap(0, 2, 0);
        Due.is("next pass with taps of other tones", 2, x.fits(0, 4, 0, 1));
        // with wax and thick as they are, not as at the taps
        RingBars y = lawed(3, "bend 0 grain when at=2 and thick=18;bend 0 grain when at=1 and thick=19 and wax=5;bend 0 0;mass 0 1 when at=0;");
        y.tap(0, 0, 0);
        Due.is("next pass, none tells", 0, y.fits(0, 3, 0, 1));
        y.wax(0, 1, 5);
        Due.is("next pass with wax as it is", 1, y.fits(0, 3, 0, 1));
        y.shave(0, 2, 1);
        Due.is("next pass of several with thick as it is", 1, y.fits(0, 3, 0, 1));
        y.wax(0, 1, 0);
        Due.is("next pass with thick as it is", 2, y.fits(0, 3, 0, 1));
        // numbers are counted once, over many fits
        RingBars z = lawed(5, "bend 0 grain*thick*thick when at=4;bend 0 grain*thick;mass 0 1 when at=0;");
        Due.is("next pass of 1024 rows", tried(), z.fits(0, 4, 0, 1));
    }

    /** The next pass of that last bar by its own words. */
    private static int tried() {
        int best = -1;
        int most = 0;
        for (int i = 0; i < 5; i++) {
            java.util.Set<Integer> unlike = new java.util.HashSet<>();
            for (int row = 0; row < 1024; row++) {
                int tone = 0;
                for (int s = 0; s < 5; s++) {
                    int thick = s == i ? 19 : 20;
                    tone += (row >> 2 * s & 3) * thick * (s == 4 ? thick : 1) + thick * (s == 4 ? thick : 1);
                }
                unlike.add(tone);
            }
            if (unlike.size() > most) {
                most = unlike.size();
                best = i;
            }
        }
        return best;
    }

    /** Unlike numbers are counted right where there are many of them, alike ones far apart among them. */
    private static void nextPassOfManyNumbers() {
        java.util.Random random = new java.util.Random(5);
        for (int n = 0; n < 60; n++) {
            int[] whole = random.ints(5, 1, n < 30 ? 40 : 900).toArray();
            int[] shaved = random.ints(5, 1, n < 30 ? 40 : 900).toArray();
            StringBuilder law = new StringBuilder("mass 0 1 when at=0;");
            for (int i = 0; i < 5; i++) {
                law.append("bend 0 grain*").append(whole[i]).append(" when at=").append(i).append(" and thick=20;");
                law.append("bend 0 grain*").append(shaved[i]).append(" when at=").append(i).append(';');
            }
            Due.is("next pass of many numbers, " + n, mostUnlike(whole, shaved), lawed(5, law.toString()).fits(0, 4, 0, 1));
        }
    }

    private static int mostUnlike(int[] whole, int[] shaved) {
        int best = -1;
        int most = 0;
        for (int i = 0; i < 5; i++) {
            java.util.Set<Integer> unlike = new java.util.HashSet<>();
            for (int row = 0; row < 1024; row++) {
                int tone = 0;
                for (int s = 0; s < 5; s++) {
                    tone += (1 + (row >> 2 * s & 3)) * (s == i ? shaved : whole)[s];
                }
                unlike.add(tone);
            }
            if (unlike.size() > most) {
                most = unlike.size();
                best = i;
            }
        }
        return best;
    }

    /** What was asked of a larger bar before does not count for a smaller one. */
    private static void smallerBehindLarger() {
        RingBars x = lawed(5, "bend 0 grain*thick;mass 0 1;");
        x.bar(3);
        x.bar(4);
        for (int bar = 0; bar < 3; bar++) {
            for (int t = 0; t < 12; t++) {
                x.tap(bar, 0, 40000);
            }
        }
        // all grains together are twice as many as slices: one row of most 2
        for (int turn = 0; turn < 2; turn++) {
            for (int bar = 0; bar < 3; bar++) {
                Due.is("fits of bar " + bar, 1, x.fits(bar, 2, 0, 0));
                Due.is("sure of bar " + bar, 2, x.fits(bar, 2, 0, 12));
                Due.is("next pass of bar " + bar, 0, x.fits(bar, 4, 0, 1));
            }
        }
    }

    private static void nextPassOfThinSlices() {
        for (int thick = 1; thick <= 3; thick++) {
            RingBars x = lawed(3, "bend 0 grain*thick when at=1;bend 0 1;mass 0 1 when at=0;");
            x.slice(0, 0, 1, 5, 5);
            x.slice(0, 1, thick, 5, 5);
            x.slice(0, 2, 1, 5, 5);
            Due.is("next pass of thick " + thick, thick > 1 ? 1 : -1, x.fits(0, 2, 0, 1));
            Due.is("fits of thick " + thick, 8, x.fits(0, 2, 0, 0));
        }
    }

    private static void nextPassOfSeveral() {
        Edge.says("Terms 3", "of several the least.");
        RingBars x = lawed(5, "bend 0 grain*thick;mass 0 1 when at=0;");
        Due.is("next pass of five that are alike", 0, x.fits(0, 2, 0, 1));
        x.slice(0, 0, 1, 5, 5);
        Due.is("next pass of four that are alike", 1, x.fits(0, 2, 0, 1));
        x.slice(0, 1, 1, 5, 5);
        x.slice(0, 2, 1, 5, 5);
        x.slice(0, 3, 1, 5, 5);
        Due.is("next pass of the last", 4, x.fits(0, 2, 0, 1));
    }

    private static void whatIsAsked() {
        Edge.says("Promise 22", "what 0 how many, 1 the NEXT PASS, 10 + i the GRAIN of SLICE i that is SURE.");
        for (int n = 3; n <= 5; n++) {
            RingBars x = lawed(n, "bend 0 grain;mass 0 1;");
            Due.is("what 0", 1, x.fits(0, 1, 0, 0));
            Due.is("what 1", 0, x.fits(0, 1, 0, 1));
            for (int what = -2; what < 20; what++) {
                boolean slice = what >= 10 && what < 10 + n;
                if (what < 0 || what > 1) {
                    Due.is("fits(0, 1, 0, " + what + ") of " + n + " slices", slice ? 1 : -1, x.fits(0, 1, 0, what));
                }
            }
            for (int what : new int[] {MOST, LEAST, LEAST + 10, LEAST + 12, MOST - 5}) {
                Due.is("fits(0, 1, 0, " + what + ")", -1, x.fits(0, 1, 0, what));
            }
        }
    }

    private static void fitsRefused() {
        int[][] none = {{0, 0, 0, 0}, {0, 5, 0, 0}, {0, 4, -1, 0}, {0, 4, 100000, 0}, {0, 4, 9, -1}, {0, 4, 9, 2}, {0, 4, 9, 9},
            {0, 4, 9, 14}, {1, 4, 9, 13}, {2, 4, 9, 0}, {-1, 4, 9, 0}, {MOST, 4, 9, 0}, {LEAST, 4, 9, 0}};
        for (int[] n : none) {
            String call = "fits(" + n[0] + ", " + n[1] + ", " + n[2] + ", " + n[3] + ")";
            Edge.refused(call, -1, y -> y.fits(n[0], n[1], n[2], n[3]));
        }
        Edge.refused("fits(1, 4, 0, 0)", 64, y -> y.fits(1, 4, 0, 0));
        Edge.refused("fits(1, 4, 0, 1)", 0, y -> y.fits(1, 4, 0, 1));
        Edge.refused("fits of six slices", -1, y -> y.bar(6), y -> y.fits(2, 1, 0, 0));
    }

    private static void offAtMost() {
        Edge.says("Terms 3", "how far what it tells (GRAINS as they are) is off, added (999999999 at most)");
        // ten slices of 99999 and one of 10 make 1000000, so that tone 0 is 1000000000
        String law = "bend 0 99999 when at<10;bend 0 10 when at=10;mass 0 1 when at=0;";
        int[][] cases = {{2, 999999998}, {1, 999999999}, {0, 999999999}, {9999999, 990000001}};
        for (int[] c : cases) {
            RingBars x = lawed(16, law);
            x.tap(0, 0, c[0]);
            Due.is("off of " + c[0], c[1], x.off(0));
        }
        RingBars x = lawed(16, law);
        x.tap(0, 0, 2);
        x.tap(0, 1, 1);
        Due.is("off of two taps, at the most", 999999999, x.off(0));
        x.tap(0, 1, 1);
        Due.is("off of three taps, beyond it", 999999999, x.off(0));
        Due.is("off of the empty law", 4, x.off(1));
        Due.is("fitting", 1, x.off(-1));
        for (int t = 4; t <= 12; t++) {
            x.tap(0, 0, 0);
        }
        Due.is("off of many taps, far beyond it", 999999999, x.off(0));
    }

    private static void offOfAllTaps() {
        Edge.says("Terms 3", "OFF of a LAW: over all TAPS of all BARS");
        RingBars x = lawed(3, "bend 0 grain;mass 0 1;bend 1 grain*2;mass 1 1;bend 2 grain*3;mass 2 1;");
        for (int b = 1; b < 10; b++) {
            x.bar(3 + b);
        }
        Due.is("off without taps", 0, x.off(0));
        int off = 0;
        for (int b = 0; b < 10; b++) {
            int k = b % 3;
            x.tap(b, k, 5000 * (k + 1) + (b % 2 == 0 ? b + 1 : -b - 1));
            off += b + 1;
            Due.is("off of " + (b + 1) + " bars", off, x.off(0));
        }
        for (int t = 2; t <= 12; t++) {
            Due.is("tap " + t, t, x.tap(9, 0, 5000 + t));
            off += t;
            Due.is("off of tap " + t, off, x.off(0));
        }
    }

    private static void offByGrainsAsTheyAre() {
        RingBars x = lawed(3, "bend 0 grain+heavy;mass 0 1;");
        x.tap(0, 0, 10000);
        Due.is("off", 0, x.off(0));
        x.slice(0, 2, 7, 8, 5);
        Due.is("off by a grain told since", 1000, x.off(0));
        x.slice(0, 2, 9, 5, 5);
        Due.is("off by the grain told back", 0, x.off(0));
    }

    private static void fitting() {
        Edge.says("Terms 3", "FITTING: the LAW with less; of both 0.");
        Edge.says("Promise 23", "OFF of a LAW (law NONE: FITTING); NONE if one can't be.");
        int[][] cases = {{5000, 5000, 0}, {5000, 5001, 0}, {5001, 5000, 1}, {4999, 5000, 1}, {4999, 5001, 0}, {4998, 5001, 1}};
        for (int[] c : cases) {
            RingBars x = lawed(3, "bend 0 " + c[0] + ";mass 0 1000;");
            Due.law(x, 1, "bend 0 " + c[1] + ";mass 0 1000;");
            x.tap(0, 0, 5000);
            Due.is("off(0)", Math.abs(c[0] - 5000), x.off(0));
            Due.is("off(1)", Math.abs(c[1] - 5000), x.off(1));
            Due.is("fitting of " + c[0] + " and " + c[1], c[2], x.off(-1));
            x.force(1);
            Due.is("fitting, whichever is in force", c[2], x.off(-1));
        }
        Due.is("fitting of a new object", 0, new RingBars().off(-1));
    }

    private static void offRefused() {
        for (int law : new int[] {2, -2, 3, MOST, LEAST}) {
            Edge.refused("off(" + law + ")", -1, y -> y.off(law));
        }
        Edge.refused("off(-1)", 0, y -> y.off(-1));
    }
}
