/** The boundaries of promises 1 to 5: how many bars and slices, what a slice may be told as. */
public final class EdgesOfBarsTest {
    private static final int LEAST = Integer.MIN_VALUE;
    private static final int MOST = Integer.MAX_VALUE;

    public static void main(String[] args) {
        noBarsAtFirst();
        slicesOfABar();
        tenBars();
        atFirst();
        thick();
        grain();
        heavy();
        noSuchSlice();
        slicesBehindPasses();
        wax();
        noSuchWax();
        of();
        allCalls();
        Due.close();
    }

    private static void noBarsAtFirst() {
        Edge.says("Promise 1", "`RingBars()`: No BARS.");
        RingBars x = new RingBars();
        Due.is("look(0)", 0, x.look(0));
        Due.is("of(0, 0, 0)", -1, x.of(0, 0, 0));
        Due.is("slice(0, 0, 5, 5, 5)", false, x.slice(0, 0, 5, 5, 5));
        Due.is("wax(0, 0, 5)", false, x.wax(0, 0, 5));
        Due.is("tone(0, 0)", -1, x.tone(0, 0));
        Due.is("shave(0, 0, 1)", -1, x.shave(0, 0, 1));
        Due.is("pass(0, 1, 0)", -1, x.pass(0, 1, 0));
        Due.is("goal(0, 0, 5)", false, x.goal(0, 0, 5));
        Due.is("state(0, 0)", -2, x.state(0, 0));
        Due.is("state(-1, 0)", -2, x.state(-1, 0));
        Due.is("takes(0, 0, 0)", -10000000, x.takes(0, 0, 0));
        Due.is("tells(0, 0, 0, 0, 0)", -100000, x.tells(0, 0, 0, 0, 0));
        Due.is("job(0, 0)", -1, x.job(0, 0));
        Due.is("fewest(0, 0)", -1, x.fewest(0, 0));
        Due.is("tap(0, 0, 5)", -1, x.tap(0, 0, 5));
        Due.is("fits(0, 1, 0, 0)", -1, x.fits(0, 1, 0, 0));
        Due.is("still(0, 0, 0)", -1, x.still(0, 0, 0));
        Due.is("holes(0, 0, 1)", false, x.holes(0, 0, 1));
        Due.is("tube(0, 0, 5)", false, x.tube(0, 0, 5));
        Due.is("in(0, 0, 0, 0)", -1, x.in(0, 0, 0, 0));
        Due.is("down(0)", -1, x.down(0));
        Due.is("enough(0, 0, 0)", -1, x.enough(0, 0, 0));
        Due.is("bar(3)", 0, x.bar(3));
        Due.is("of(0, 0, 0) of the first bar", 20, x.of(0, 0, 0));
        Due.is("of(1, 0, 0)", -1, x.of(1, 0, 0));
    }

    private static void slicesOfABar() {
        Edge.says("Terms 1", "have n SLICES (3 .. 16)");
        RingBars x = new RingBars();
        Due.is("bar(2)", -1, x.bar(2));
        Due.is("bar(17)", -1, x.bar(17));
        Due.is("no bar came", 0, x.look(0));
        Due.is("bar(3)", 0, x.bar(3));
        Due.is("state(0, 0)", 3, x.state(0, 0));
        Due.is("bar(17) between two", -1, x.bar(17));
        Due.is("bar(16)", 1, x.bar(16));
        Due.is("state(1, 0)", 16, x.state(1, 0));
        Due.is("bar(4)", 2, x.bar(4));
        Due.is("bar(15)", 3, x.bar(15));
        Due.is("look(0)", 4, x.look(0));
        Due.is("the last slice of three", 20, x.of(0, 2, 0));
        Due.is("a slice behind it", -1, x.of(0, 3, 0));
        Due.is("the last slice of sixteen", 20, x.of(1, 15, 0));
        Due.is("a slice behind it", -1, x.of(1, 16, 0));
        for (int n : new int[] {2, 17, 1, 0, -1, -3, -16, LEAST, MOST}) {
            Edge.refused("bar(" + n + ")", -1, y -> y.bar(n));
        }
    }

    private static void tenBars() {
        Edge.says("Terms 1", "BARS 0 .. 9 as they come");
        Edge.says("Promise 2", "its number; NONE if one can't be, or there are ten.");
        RingBars x = new RingBars();
        for (int b = 0; b < 10; b++) {
            Due.is("bar " + b, b, x.bar(3 + b));
        }
        Due.is("the eleventh, bar(3)", -1, x.bar(3));
        Due.is("the eleventh, bar(16)", -1, x.bar(16));
        Due.is("the eleventh, bar(2)", -1, x.bar(2));
        Due.is("look(0)", 10, x.look(0));
        for (int b = 0; b < 10; b++) {
            Due.is("slices of bar " + b, 3 + b, x.state(b, 0));
        }
        Due.is("state(10, 0)", -2, x.state(10, 0));
        Due.is("slice(9, 11, 7, 7, 7)", true, x.slice(9, 11, 7, 7, 7));
        Due.is("of(9, 11, 0)", 7, x.of(9, 11, 0));
        Due.is("slice(10, 0, 7, 7, 7)", false, x.slice(10, 0, 7, 7, 7));
        Edge.refused("the eleventh bar(3)", -1, y -> {
            for (int b = 2; b < 10; b++) {
                Due.is("bar " + b, b, y.bar(5));
            }
        }, y -> y.bar(3));
    }

    private static void atFirst() {
        Edge.says("Terms 1", "(20, 5, 5, 0 at first)");
        int[] first = {20, 5, 5, 0};
        for (int n : new int[] {3, 16}) {
            RingBars x = new RingBars();
            x.bar(n);
            for (int i = 0; i < n; i++) {
                for (int what = 0; what < 4; what++) {
                    Due.is("of(0, " + i + ", " + what + ") at first", first[what], x.of(0, i, what));
                }
            }
        }
    }

    /** Told numbers that can be, the least and the greatest, and those next to them that can't. */
    private static void told(int what, int least, int most, int[] can) {
        for (int v : new int[] {least, most, least + 1, most - 1}) {
            RingBars x = new RingBars();
            x.bar(3);
            int[] t = can.clone();
            t[what] = v;
            Due.is("slice with " + v + " as " + what, true, x.slice(0, 1, t[0], t[1], t[2]));
            for (int w = 0; w < 3; w++) {
                Due.is("of(0, 1, " + w + ")", t[w], x.of(0, 1, w));
            }
            Due.is("the slice before", 20, x.of(0, 0, 0));
            Due.is("the slice behind", 20, x.of(0, 2, 0));
        }
        for (int v : new int[] {least - 1, most + 1, -least, LEAST, MOST}) {
            int[] t = can.clone();
            t[what] = v;
            Edge.denied("slice with " + v + " as " + what, x -> x.slice(1, 1, t[0], t[1], t[2]));
        }
    }

    private static void thick() {
        Edge.says("Terms 1", "each has THICK 1 .. 99");
        told(0, 1, 99, new int[] {31, 4, 8});
    }

    private static void grain() {
        Edge.says("Terms 1", "GRAIN 1 .. 9");
        told(1, 1, 9, new int[] {31, 4, 8});
    }

    private static void heavy() {
        Edge.says("Terms 1", "HEAVY 1 .. 9");
        told(2, 1, 9, new int[] {31, 4, 8});
    }

    private static void noSuchSlice() {
        Edge.says("Promise 3", "false, and nothing is done, if one can't be (no such one)");
        RingBars x = new RingBars();
        x.bar(3);
        x.bar(5);
        Due.is("slice(0, 0, ..)", true, x.slice(0, 0, 7, 7, 7));
        Due.is("slice(0, 2, ..)", true, x.slice(0, 2, 8, 7, 7));
        Due.is("slice(0, 3, ..)", false, x.slice(0, 3, 9, 7, 7));
        Due.is("slice(1, 3, ..)", true, x.slice(1, 3, 10, 7, 7));
        Due.is("slice(1, 4, ..)", true, x.slice(1, 4, 11, 7, 7));
        Due.is("slice(1, 5, ..)", false, x.slice(1, 5, 11, 7, 7));
        Due.is("of(0, 0, 0)", 7, x.of(0, 0, 0));
        Due.is("of(0, 2, 0)", 8, x.of(0, 2, 0));
        Due.is("of(1, 3, 0)", 10, x.of(1, 3, 0));
        Due.is("of(1, 4, 0)", 11, x.of(1, 4, 0));
        // bar 0 of what is told has four slices and passes, bar 1 three and none
        int[][] none = {{1, 3}, {1, -1}, {1, LEAST}, {1, MOST}, {2, 0}, {-1, 0}, {LEAST, 0}, {MOST, 0}, {10, 0}};
        for (int[] n : none) {
            Edge.denied("slice(" + n[0] + ", " + n[1] + ", 9, 9, 9)", y -> y.slice(n[0], n[1], 9, 9, 9));
        }
        // all of a slice is told, or nothing: the last one that is wrong undoes the others
        Edge.denied("slice(1, 0, 9, 9, 10)", y -> y.slice(1, 0, 9, 9, 10));
        Edge.denied("slice(1, 0, 9, 10, 9)", y -> y.slice(1, 0, 9, 10, 9));
    }

    private static void slicesBehindPasses() {
        Edge.says("Promise 3", "or PASSES of the BAR were kept.");
        Edge.denied("slice of a bar with passes", x -> x.slice(0, 3, 9, 9, 9));
        RingBars x = new RingBars();
        x.bar(3);
        x.bar(3);
        Due.job(x, 0, "shave 0 9 when passes>0;wax 0 5;");
        Due.job(x, 1, "shave 0 1;");
        Due.is("a pass that can't be", -1, x.shave(0, 0, 10));
        Due.is("a job without passes", 0, x.job(0, 0));
        Due.is("slice while no pass was kept", true, x.slice(0, 1, 9, 9, 9));
        x.image(true);
        Due.is("shave(0, 0, 1)", 1, x.shave(0, 0, 1));
        Due.is("slice behind a pass", false, x.slice(0, 1, 8, 8, 8));
        Due.is("of(0, 1, 0)", 9, x.of(0, 1, 0));
        Due.is("wax behind a pass", true, x.wax(0, 1, 8));
        Due.is("slice of another bar", true, x.slice(1, 1, 7, 7, 7));
        x.image(false);
        Due.is("slice when no pass is kept any more", true, x.slice(0, 1, 6, 6, 6));
        Due.is("of(0, 1, 0)", 6, x.of(0, 1, 0));
        Due.is("a job with a pass", 1, x.job(1, 0));
        Due.is("slice behind a job's pass", false, x.slice(0, 1, 5, 5, 5));
        Due.is("of(0, 1, 0)", 6, x.of(0, 1, 0));
    }

    private static void wax() {
        Edge.says("Terms 1", "WAX 0 .. 99");
        RingBars x = new RingBars();
        x.bar(3);
        for (int w : new int[] {99, 0, 98, 1}) {
            Due.is("wax(0, 2, " + w + ")", true, x.wax(0, 2, w));
            Due.is("of(0, 2, 3)", w, x.of(0, 2, 3));
            Due.is("of(0, 1, 3)", 0, x.of(0, 1, 3));
        }
        for (int w : new int[] {-1, 100, LEAST, MOST}) {
            Edge.denied("wax(0, 2, " + w + ")", y -> y.wax(0, 2, w));
        }
    }

    private static void noSuchWax() {
        Edge.says("Promise 4", "WAX of a SLICE: true; false if one can't be.");
        RingBars x = Edge.told();
        Due.is("wax(0, 0, 5)", true, x.wax(0, 0, 5));
        Due.is("wax(0, 3, 6)", true, x.wax(0, 3, 6));
        Due.is("wax(1, 2, 7)", true, x.wax(1, 2, 7));
        Due.is("of(0, 0, 3)", 5, x.of(0, 0, 3));
        Due.is("of(0, 3, 3)", 6, x.of(0, 3, 3));
        Due.is("of(1, 2, 3)", 7, x.of(1, 2, 3));
        int[][] none = {{0, 4}, {0, -1}, {0, LEAST}, {0, MOST}, {1, 3}, {2, 0}, {-1, 0}, {LEAST, 0}, {MOST, 0}};
        for (int[] n : none) {
            Edge.denied("wax(" + n[0] + ", " + n[1] + ", 5)", y -> y.wax(n[0], n[1], 5));
        }
    }

    private static void of() {
        Edge.says("Promise 5", "NONE if there is none such, or another what.");
        RingBars x = Edge.told();
        int[] second = {30, 2, 7, 0};
        int[] last = {20, 5, 5, 4};
        for (int what = 0; what < 4; what++) {
            Due.is("of(0, 1, " + what + ")", second[what], x.of(0, 1, what));
            Due.is("of(0, 3, " + what + ")", last[what], x.of(0, 3, what));
        }
        int[][] none = {{0, 4, 0}, {0, -1, 0}, {0, MOST, 0}, {1, 3, 3}, {2, 0, 0}, {-1, 0, 0}, {LEAST, 0, 0}, {MOST, 0, 0},
            {0, 0, 4}, {0, 0, -1}, {0, 0, MOST}, {0, 0, LEAST}};
        for (int[] n : none) {
            Edge.refused("of(" + n[0] + ", " + n[1] + ", " + n[2] + ")", -1, y -> y.of(n[0], n[1], n[2]));
        }
    }

    /** The 512th call is answered as the first one is. */
    private static void allCalls() {
        Edge.says("What it is", "An object is used for at most 512 calls after it has been made");
        RingBars x = new RingBars();
        x.bar(3);
        for (int call = 2; call < 511; call++) {
            Due.is("of(0, 0, 3), call " + call, 0, x.of(0, 0, 3));
        }
        Due.is("shave(0, 2, 9), call 511", 1, x.shave(0, 2, 9));
        Due.is("of(0, 2, 0), call 512", 11, x.of(0, 2, 0));
    }
}
