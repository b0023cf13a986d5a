/** Promises 24 and 25: still points and holes, and how far holes are amiss (promise 17). */
public final class StillTest {
    public static void main(String[] args) {
        points();
        holes();
        Due.close();
    }

    private static void points() {
        RingBars x = new RingBars();
        x.bar(6);
        // mid is 5 3 1 1 3 5
        Due.law(x, 0, "sway 0 mid-2;sway 1 mid-3;sway 2 at*2-5;");
        Due.law(x, 1, "sway 0 0-1 when at=1 or at=3;sway 1 0;sway 2 0-1;");
        int[][] want = {{1, 3}, {1, 3}, {2}};
        for (int k = 0; k < 3; k++) {
            Due.is("still(0, " + k + ", 0)", want[k].length, x.still(0, k, 0));
            for (int i = 0; i < want[k].length; i++) {
                Due.is("still(0, " + k + ", " + (1 + i) + ")", want[k][i], x.still(0, k, 1 + i));
            }
            Due.is("still behind the last", -1, x.still(0, k, 1 + want[k].length));
        }
        Due.is("still(0, 0, -1)", -1, x.still(0, 0, -1));
        Due.is("still(0, 0, 2147483647)", -1, x.still(0, 0, Integer.MAX_VALUE));
        Due.is("still(0, 3, 0)", -1, x.still(0, 3, 0));
        Due.is("still(0, -1, 0)", -1, x.still(0, -1, 0));
        Due.is("still(1, 0, 0)", -1, x.still(1, 0, 0));
        x.force(1);
        Due.is("still by the law in force", 4, x.still(0, 0, 0));
        for (int i = 0; i < 4; i++) {
            Due.is("still point " + i, i, x.still(0, 0, 1 + i));
        }
        Due.is("still of all 0", 0, x.still(0, 1, 0));
        Due.is("still of all below", 0, x.still(0, 2, 0));
    }

    private static void holes() {
        RingBars x = new RingBars();
        x.bar(6);
        Due.is("AMISS without holes or points", -1, x.state(0, 9));
        int[][] wrong = {{0, 2, 2}, {0, 3, 2}, {0, -1, 2}, {0, 0, 6}, {1, 0, 1}, {-1, 0, 1}};
        for (int[] w : wrong) {
            Due.is("holes" + java.util.Arrays.toString(w), false, x.holes(w[0], w[1], w[2]));
        }
        Due.law(x, 0, "sway 0 mid-2;");
        Due.is("AMISS without holes", -1, x.state(0, 9));
        Due.is("holes(0, 0, 5)", true, x.holes(0, 0, 5));
        Due.is("AMISS", 1 + 2, x.state(0, 9));
        Due.is("holes(0, 1, 3)", true, x.holes(0, 1, 3));
        Due.is("AMISS of none", 0, x.state(0, 9));
        Due.is("holes(0, 4, 3)", false, x.holes(0, 4, 3));
        Due.is("AMISS as it was", 0, x.state(0, 9));
        Due.is("holes(0, 3, 4)", true, x.holes(0, 3, 4));
        Due.is("AMISS", 2 + 1, x.state(0, 9));
        Due.law(x, 0, "sway 0 at*2-5;");
        Due.is("AMISS of one point", 1 + 2, x.state(0, 9));
        Due.law(x, 0, "sway 1 mid-2;");
        Due.is("AMISS without points of tone 0", -1, x.state(0, 9));
        Due.law(x, 1, "sway 0 mid-2;");
        x.force(1);
        Due.is("AMISS by the law in force", 3, x.state(0, 9));
    }
}
