/** Promises 1 to 5: a new object, bars, slices, wax. */
public final class BarsTest {
    public static void main(String[] args) {
        newObject();
        bars();
        slices();
        wax();
        Due.close();
    }

    private static void newObject() {
        RingBars x = new RingBars();
        Due.is("NONE", -1, RingBars.NONE);
        Due.is("look(0) of a new object", 0, x.look(0));
        Due.is("state(0, 0) of a new object", -2, x.state(0, 0));
        Due.is("of(0, 0, 0) of a new object", -1, x.of(0, 0, 0));
        Due.is("fault(0) of a new object", 0, x.fault(0));
        Due.is("fault(1) of a new object", -1, x.fault(1));
    }

    private static void bars() {
        RingBars x = new RingBars();
        for (int n : new int[] {2, 17, 0, -3, Integer.MIN_VALUE, Integer.MAX_VALUE}) {
            Due.is("bar(" + n + ")", -1, x.bar(n));
        }
        for (int b = 0; b < 10; b++) {
            int n = b == 0 ? 3 : b == 1 ? 16 : 5;
            Due.is("bar(" + n + ")", b, x.bar(n));
            Due.is("state(" + b + ", 0)", n, x.state(b, 0));
        }
        Due.is("the eleventh bar(3)", -1, x.bar(3));
        Due.is("look(0)", 10, x.look(0));
    }

    private static void slices() {
        RingBars x = new RingBars();
        x.bar(3);
        int[] first = {20, 5, 5, 0};
        for (int what = 0; what < 4; what++) {
            Due.is("of(0, 2, " + what + ") at first", first[what], x.of(0, 2, what));
        }
        Due.is("slice(0, 2, 99, 9, 9)", true, x.slice(0, 2, 99, 9, 9));
        Due.is("slice(0, 0, 1, 1, 1)", true, x.slice(0, 0, 1, 1, 1));
        int[][] wrong = {{0, 0, 0, 5, 5}, {0, 0, 100, 5, 5}, {0, 0, 5, 0, 5}, {0, 0, 5, 10, 5}, {0, 0, 5, 5, 0},
            {0, 0, 5, 5, 10}, {0, 3, 5, 5, 5}, {0, -1, 5, 5, 5}, {1, 0, 5, 5, 5}, {-1, 0, 5, 5, 5}};
        for (int[] w : wrong) {
            Due.is("slice" + java.util.Arrays.toString(w), false, x.slice(w[0], w[1], w[2], w[3], w[4]));
        }
        int[] last = {99, 9, 9, 0};
        for (int what = 0; what < 4; what++) {
            Due.is("of(0, 2, " + what + ")", last[what], x.of(0, 2, what));
            Due.is("of(0, 0, " + what + ")", what == 3 ? 0 : 1, x.of(0, 0, what));
        }
        Due.is("of(0, 0, 4)", -1, x.of(0, 0, 4));
        Due.is("of(0, 0, -1)", -1, x.of(0, 0, -1));
        Due.is("of(0, 3, 0)", -1, x.of(0, 3, 0));
        Due.is("of(1, 0, 0)", -1, x.of(1, 0, 0));
        x.shave(0, 2, 1);
        Due.is("slice behind a pass", false, x.slice(0, 1, 5, 5, 5));
        Due.is("of(0, 1, 0) is as it was", 20, x.of(0, 1, 0));
        x.bar(3);
        Due.is("slice of another bar", true, x.slice(1, 1, 5, 5, 5));
    }

    private static void wax() {
        RingBars x = new RingBars();
        x.bar(3);
        Due.is("wax(0, 1, 99)", true, x.wax(0, 1, 99));
        Due.is("of(0, 1, 3)", 99, x.of(0, 1, 3));
        Due.is("slice(0, 1, ..)", true, x.slice(0, 1, 7, 7, 7));
        Due.is("a told slice keeps its wax", 99, x.of(0, 1, 3));
        Due.is("wax(0, 1, 100)", false, x.wax(0, 1, 100));
        Due.is("wax(0, 1, -1)", false, x.wax(0, 1, -1));
        Due.is("wax(0, 3, 1)", false, x.wax(0, 3, 1));
        Due.is("wax(0, -1, 1)", false, x.wax(0, -1, 1));
        Due.is("wax(1, 0, 1)", false, x.wax(1, 0, 1));
        Due.is("of(0, 1, 3) is as it was", 99, x.of(0, 1, 3));
        x.shave(0, 0, 1);
        Due.is("wax behind a pass", true, x.wax(0, 1, 0));
        Due.is("of(0, 1, 3)", 0, x.of(0, 1, 3));
    }
}
