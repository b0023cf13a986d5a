/** The boundaries of promises 24 and 25, and of AMISS (promise 17): where sway turns, where holes may be. */
public final class EdgesOfStillTest {
    private static final int LEAST = Integer.MIN_VALUE;
    private static final int MOST = Integer.MAX_VALUE;

    public static void main(String[] args) {
        signs();
        byWhatASliceHas();
        noneToFifteen();
        whatIsAsked();
        stillRefused();
        holes();
        holesRefused();
        amiss();
        amissOfNone();
        Due.close();
    }

    private static RingBars lawed(int n, String law) {
        RingBars x = new RingBars();
        x.bar(n);
        Due.is("lines of " + law, true, Due.law(x, 0, law) >= 0);
        return x;
    }

    private static void points(RingBars x, String then, int k, int... want) {
        Due.is("still points " + then, want.length, x.still(0, k, 0));
        for (int i = 0; i < want.length; i++) {
            Due.is("still point " + i + " " + then, want[i], x.still(0, k, 1 + i));
        }
        Due.is("still behind the last " + then, -1, x.still(0, k, 1 + want.length));
    }

    private static void signs() {
        Edge.says("Terms 3", "each i for which sway of SLICES i and i + 1 have unlike signs (0 counts as above 0)");
        points(lawed(3, "sway 0 0;"), "of all 0", 0);
        points(lawed(3, "sway 0 1;"), "of all above", 0);
        points(lawed(3, "sway 0 0-1;"), "of all below", 0);
        points(lawed(3, ""), "without a law", 0);
        points(lawed(3, "sway 0 at;"), "of 0, 1, 2", 0);
        points(lawed(3, "sway 0 at-1;"), "of -1, 0, 1", 0, 0);
        points(lawed(3, "sway 0 at-2;"), "of -2, -1, 0", 0, 1);
        points(lawed(3, "sway 0 at-3;"), "of -3, -2, -1", 0);
        points(lawed(3, "sway 0 0-at;"), "of 0, -1, -2", 0, 0);
        points(lawed(3, "sway 0 1-at;"), "of 1, 0, -1", 0, 1);
        points(lawed(3, "sway 0 0-1 when at=1;"), "of 0, -1, 0", 0, 0, 1);
        points(lawed(3, "sway 0 0 when at=1;sway 0 0-1;"), "of -1, 0, -1", 0, 0, 1);
        points(lawed(3, "sway 0 9999 when at=1;sway 0 0-9999;"), "of the greatest and the least", 0, 0, 1);
        for (int k = 0; k < 3; k++) {
            RingBars x = lawed(3, "sway " + k + " at-1;");
            for (int other = 0; other < 3; other++) {
                if (other == k) {
                    points(x, "of tone " + other, other, 0);
                } else {
                    points(x, "of tone " + other, other);
                }
            }
        }
    }

    /** Sway may hang on all that a slice has. */
    private static void byWhatASliceHas() {
        String[] words = {"thick", "grain", "heavy", "wax"};
        for (int what = 0; what < 4; what++) {
            RingBars x = lawed(5, "sway 0 " + words[what] + "-3;");
            for (int i = 0; i < 5; i++) {
                int[] slice = {9 - i, 3, 3, 3};
                // what counts turns between slices 1 and 2; what does not would turn elsewhere, or nowhere
                int v = i < 2 ? 2 : 3;
                slice[what] = v;
                slice[(what + 1) % 4] = i == 3 ? 2 : 4;
                x.slice(0, i, slice[0], slice[1], slice[2]);
                x.wax(0, i, slice[3]);
            }
            points(x, "by " + words[what], 0, 1);
            x.holes(0, 0, 4);
            Due.is("AMISS by " + words[what], 4, x.state(0, 9));
        }
    }

    private static void noneToFifteen() {
        String law = "sway 0 0-1 when at=0 or at=2 or at=4 or at=6 or at=8 or at=10 or at=12 or at=14;";
        for (int n = 3; n <= 16; n++) {
            RingBars x = lawed(n, law);
            int[] all = new int[n - 1];
            for (int i = 0; i < n - 1; i++) {
                all[i] = i;
            }
            points(x, "of " + n + " slices that turn each time", 0, all);
        }
        points(lawed(16, "sway 0 14-at;"), "between the last two", 0, 14);
        points(lawed(16, "sway 0 at-1;"), "between the first two", 0, 0);
    }

    private static void whatIsAsked() {
        Edge.says("Promise 24", "what 0 how many, 1 + i the i-th (from 0). NONE if there is none such, one can't be, or another what.");
        RingBars x = lawed(6, "sway 0 mid-2;");
        Due.is("still(0, 0, 0)", 2, x.still(0, 0, 0));
        Due.is("still(0, 0, 1)", 1, x.still(0, 0, 1));
        Due.is("still(0, 0, 2)", 3, x.still(0, 0, 2));
        for (int what : new int[] {3, 4, 15, 16, 17, -1, -2, MOST, LEAST}) {
            Due.is("still(0, 0, " + what + ")", -1, x.still(0, 0, what));
        }
        x.force(1);
        Due.is("still by law 1", 0, x.still(0, 0, 0));
        Due.is("still by law 1, the first", -1, x.still(0, 0, 1));
    }

    private static void stillRefused() {
        int[][] none = {{0, 3, 0}, {0, -1, 0}, {0, MOST, 0}, {0, LEAST, 0}, {2, 0, 0}, {-1, 0, 0}, {MOST, 0, 0}, {LEAST, 0, 0},
            {0, 0, 3}, {0, 0, -1}};
        for (int[] n : none) {
            Edge.refused("still(" + n[0] + ", " + n[1] + ", " + n[2] + ")", -1, y -> y.still(n[0], n[1], n[2]));
        }
        Edge.refused("still(0, 0, 0)", 2, y -> y.still(0, 0, 0));
    }

    private static void holes() {
        Edge.says("Promise 25", "HOLES of a BAR: true; false if one can't be (the first one not below the second).");
        // the one still point is 1, so that AMISS tells both holes
        for (int n : new int[] {3, 16}) {
            RingBars x = lawed(n, "sway 0 at-2;");
            for (int a = 0; a < n; a++) {
                for (int b : new int[] {a - 1, a, a + 1, n - 1}) {
                    boolean can = b > a && b < n;
                    int before = x.state(0, 9);
                    Due.is("holes(0, " + a + ", " + b + ") of " + n, can, x.holes(0, a, b));
                    Due.is("AMISS", can ? Math.abs(a - 1) + Math.abs(b - 1) : before, x.state(0, 9));
                }
            }
        }
    }

    private static void holesRefused() {
        // bar 0 has four slices, bar 1 three
        int[][] none = {{0, 1, 1}, {0, 2, 1}, {0, 3, 0}, {0, 0, 4}, {0, 3, 4}, {0, 4, 5}, {0, -1, 2}, {0, -2, -1}, {0, 0, MOST},
            {0, LEAST, 0}, {0, LEAST, MOST}, {0, 0, 0}, {0, 3, 3}, {1, 0, 3}, {2, 0, 1}, {-1, 0, 1}, {MOST, 0, 1}, {LEAST, 0, 1}};
        for (int[] n : none) {
            Edge.denied("holes(" + n[0] + ", " + n[1] + ", " + n[2] + ")", y -> y.holes(n[0], n[1], n[2]));
        }
    }

    private static void amiss() {
        Edge.says("Terms 3", "AMISS: how far the first one is from the first STILL point of TONE 0, and the second from the last one, added.");
        // still points of six slices are 1 and 3; of other tones there are others
        RingBars x = lawed(6, "sway 0 mid-2;sway 1 at-1;sway 2 4-at;");
        int[][] cases = {{1, 3, 0}, {0, 3, 1}, {2, 3, 1}, {1, 2, 1}, {1, 4, 1}, {0, 1, 3}, {4, 5, 5}, {0, 5, 3}, {2, 4, 2}};
        for (int[] c : cases) {
            Due.is("holes(0, " + c[0] + ", " + c[1] + ")", true, x.holes(0, c[0], c[1]));
            Due.is("AMISS of " + c[0] + " and " + c[1], c[2], x.state(0, 9));
        }
        // of one still point both are as far from it
        RingBars y = lawed(16, "sway 0 at-1;");
        y.holes(0, 14, 15);
        Due.is("the greatest AMISS", 29, y.state(0, 9));
        Due.law(y, 0, "sway 0 14-at;");
        y.holes(0, 0, 1);
        Due.is("AMISS from the last point", 14 + 13, y.state(0, 9));
    }

    private static void amissOfNone() {
        Edge.says("Promise 17", "9 AMISS (NONE without HOLES or STILL points)");
        RingBars x = lawed(6, "sway 0 mid-2;");
        Due.is("AMISS without holes", -1, x.state(0, 9));
        x.holes(0, 1, 3);
        Due.is("AMISS of holes where they should be", 0, x.state(0, 9));
        Due.law(x, 0, "sway 0 1;sway 1 mid-2;");
        Due.is("AMISS without still points", -1, x.state(0, 9));
        Due.law(x, 0, "sway 0 mid-2;");
        Due.is("AMISS with still points again", 0, x.state(0, 9));
        x.force(1);
        Due.is("AMISS by law 1", -1, x.state(0, 9));
        x.bar(6);
        x.force(0);
        Due.is("AMISS of a bar without holes", -1, x.state(1, 9));
    }
}
