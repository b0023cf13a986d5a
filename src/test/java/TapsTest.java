/** Promises 21 to 23: taps, what fits them, how far laws are off. */
public final class TapsTest {
    public static void main(String[] args) {
        taps();
        fits();
        asThen();
        nextPass();
        off();
        Due.close();
    }

    private static RingBars plain(int n, String law) {
        RingBars x = new RingBars();
        x.bar(n);
        Due.is(law, true, Due.law(x, 0, law) >= 0);
        return x;
    }

    private static void taps() {
        RingBars x = plain(3, "bend 0 grain;mass 0 1;");
        int[][] wrong = {{0, 3, 5}, {0, -1, 5}, {0, 0, -1}, {0, 0, 10000000}, {1, 0, 5}, {-1, 0, 5}};
        for (int[] w : wrong) {
            Due.is("tap" + java.util.Arrays.toString(w), -1, x.tap(w[0], w[1], w[2]));
        }
        for (int t = 1; t <= 12; t++) {
            Due.is("tap " + t, t, x.tap(0, t % 3, t == 1 ? 9999999 : 0));
            Due.is("state(0, 8)", t, x.state(0, 8));
        }
        Due.is("the 13th tap", -1, x.tap(0, 0, 0));
        Due.is("state(0, 8)", 12, x.state(0, 8));
        x.bar(3);
        Due.is("a tap of another bar", 1, x.tap(1, 0, 0));
    }

    private static void fits() {
        RingBars x = plain(3, "bend 0 grain*thick;mass 0 1;bend 1 grain*thick when at=1;mass 1 1;");
        Due.is("fits without taps", 64, x.fits(0, 4, 0, 0));
        Due.is("fits of most 1", 1, x.fits(0, 1, 0, 0));
        Due.is("sure of most 1", 1, x.fits(0, 1, 0, 12));
        x.tap(0, 0, 40000);
        // grains that make 6 together: of 1 .. 4 there are 10 rows, of 1 .. 3 there are 7
        Due.is("fits of 6 in 3", 10, x.fits(0, 4, 0, 0));
        Due.is("fits of 6 in 3, most 3", 7, x.fits(0, 3, 0, 0));
        Due.is("fits of 6 in 3, most 2", 1, x.fits(0, 2, 0, 0));
        Due.is("sure of most 2", 2, x.fits(0, 2, 0, 11));
        Due.is("not sure", -1, x.fits(0, 3, 0, 11));
        // one more or less is 6666 or 6667 off
        Due.is("fits within a small doubt", 7, x.fits(0, 3, 6665, 0));
        Due.is("fits within a doubt, above and below", 7 + 6, x.fits(0, 3, 6666, 0));
        Due.is("fits within a doubt, above and below", 7 + 6 + 6, x.fits(0, 3, 6667, 0));
        x.tap(0, 1, 20000);
        Due.is("fits of two taps", 2, x.fits(0, 3, 0, 0));
        Due.is("sure of slice 1", 3, x.fits(0, 3, 0, 11));
        Due.is("not sure of slice 0", -1, x.fits(0, 3, 0, 10));
        x.tap(0, 2, 1);
        Due.is("fits of what can't be", 0, x.fits(0, 4, 0, 0));
        Due.is("next pass without fits", -1, x.fits(0, 4, 0, 1));
        Due.is("sure without fits", -1, x.fits(0, 1, 0, 10));
        Due.is("fits within a doubt", 2, x.fits(0, 3, 1, 0));
        int[][] wrong = {{0, 0, 0, 0}, {0, 5, 0, 0}, {0, 2, -1, 0}, {0, 2, 100000, 0}, {1, 2, 0, 0}, {-1, 2, 0, 0},
            {0, 2, 99999, 2}, {0, 2, 99999, 9}, {0, 2, 99999, -1}, {0, 2, 99999, 13}, {0, 2, 99999, Integer.MIN_VALUE}};
        for (int[] w : wrong) {
            Due.is("fits" + java.util.Arrays.toString(w), -1, x.fits(w[0], w[1], w[2], w[3]));
        }
        Due.is("fits of the greatest doubt", 8, x.fits(0, 2, 99999, 0));
        x.bar(6);
        Due.is("fits of six slices", -1, x.fits(1, 2, 0, 0));
        x.bar(5);
        Due.is("fits of five slices", 1024, x.fits(2, 4, 0, 0));
    }

    private static void asThen() {
        RingBars x = plain(3, "bend 0 grain*thick+wax;mass 0 heavy;");
        for (int i = 0; i < 3; i++) {
            x.slice(0, i, 10 + i, 1 + i % 2, 2);
        }
        x.wax(0, 0, 3);
        // (10 + 22 + 12 + 3) by 6
        x.tap(0, 0, 7833);
        Due.is("fits", 1, x.fits(0, 2, 0, 0));
        x.wax(0, 0, 50);
        x.shave(0, 1, 4);
        Due.is("fits with thick and wax as then", 1, x.fits(0, 2, 0, 0));
        Due.is("sure of slice 1", 2, x.fits(0, 2, 0, 11));
        Due.is("off with thick and wax as then", 0, x.off(0));
    }

    private static void nextPass() {
        // slice 2 alone has its grain told by how thick it is
        RingBars x = plain(3, "bend 0 grain*thick when at=2;bend 0 9;mass 0 1;");
        Due.is("next pass", 0, x.fits(0, 3, 0, 1));
        RingBars y = plain(3, "bend 0 grain*100 when at=1 and thick=19;bend 0 grain when at=0;mass 0 1;");
        Due.is("next pass that tells most", 1, y.fits(0, 3, 0, 1));
        y.slice(0, 1, 1, 5, 5);
        Due.is("next pass of another slice", 0, y.fits(0, 3, 0, 1));
        y.slice(0, 0, 1, 5, 5);
        Due.is("next pass of the last slice", 2, y.fits(0, 3, 0, 1));
        y.slice(0, 2, 1, 5, 5);
        Due.is("next pass of a bar that is thin all over", -1, y.fits(0, 3, 0, 1));
        Due.is("nothing is done", 0, y.state(0, 1));
    }

    private static void off() {
        RingBars x = plain(3, "bend 0 grain;mass 0 1;");
        Due.law(x, 1, "bend 0 grain;mass 0 2;");
        Due.is("off without taps", 0, x.off(0));
        Due.is("fitting without taps", 0, x.off(-1));
        x.tap(0, 0, 4000);
        x.tap(0, 0, 7000);
        x.tap(0, 1, 30);
        Due.is("off(0)", 1000 + 2000 + 30, x.off(0));
        Due.is("off(1)", 1500 + 4500 + 30, x.off(1));
        Due.is("fitting", 0, x.off(-1));
        x.bar(4);
        x.tap(1, 0, 0);
        Due.is("off(0) of two bars", 3030 + 5000, x.off(0));
        Due.is("off(1) of two bars", 6030 + 2500, x.off(1));
        x.tap(1, 0, 1000);
        Due.is("fitting the other", 1, x.off(-1));
        x.slice(1, 0, 20, 9, 5);
        Due.is("off(0) by the grains as they are", 3030 + 6000 + 5000, x.off(0));
        Due.is("off(2)", -1, x.off(2));
        Due.is("off(-2)", -1, x.off(-2));
        Due.law(x, 0, "bend 0 99999;mass 0 1 when at=0;");
        Due.law(x, 1, "bend 0 99998;mass 0 1 when at=0;");
        Due.is("off beyond what is told", 999999999, x.off(0));
        Due.is("off beyond what is told", 999999999, x.off(1));
        Due.is("fitting of both", 0, x.off(-1));
    }
}
