/** Promise 20: the fewest passes. */
public final class FewestTest {
    public static void main(String[] args) {
        none();
        firstRow();
        neverPast();
        order();
        weight();
        bounds();
        Due.close();
    }

    private static RingBars plain(int n, String law) {
        RingBars x = new RingBars();
        x.bar(n);
        Due.is(law, true, Due.law(x, 0, law) >= 0);
        return x;
    }

    private static void fewest(RingBars x, String then, int... row) {
        Due.is("fewest " + then, row.length, x.fewest(0, 0));
        for (int i = 0; i < row.length; i++) {
            Due.is("fewest " + then + ", pass " + i, row[i], x.fewest(0, 1 + i));
        }
        Due.is("fewest " + then + ", behind the last", -1, x.fewest(0, 1 + row.length));
    }

    private static void none() {
        RingBars x = plain(4, "bend 0 thick;mass 0 1;");
        fewest(x, "without goals");
        x.goal(0, 0, 20005);
        fewest(x, "with a goal that is met");
        x.goal(0, 0, 20011);
        Due.is("fewest of a lost bar", -1, x.fewest(0, 0));
        Due.is("fewest of a lost bar, pass 0", -1, x.fewest(0, 1));
    }

    private static void firstRow() {
        // a pass takes 250 off tone 0; slice 3 alone counts for tone 1
        RingBars x = plain(4, "bend 0 thick;mass 0 1;bend 1 thick when at=3;mass 1 1;");
        x.goal(0, 0, 19250);
        fewest(x, "of one tone", 0, 0, 0);
        x.goal(0, 1, 4750);
        fewest(x, "of two tones", 0, 0, 3);
        x.goal(0, 1, 4250);
        fewest(x, "of two tones", 3, 3, 3);
        x.goal(0, 1, 4000);
        Due.is("fewest of tones that can't both be", -1, x.fewest(0, 0));
        x.goal(0, 1, 0);
        x.slice(0, 0, 2, 5, 5);
        x.goal(0, 0, 14500);
        fewest(x, "with a thin slice", 0, 1, 1, 1);
        x.slice(0, 0, 1, 5, 5);
        x.goal(0, 0, 14250);
        fewest(x, "with a slice that can't be shaved", 1, 1, 1, 1);
        Due.is("nothing is done", 0, x.state(0, 1));
        Due.is("thick is as it was", 20, x.of(0, 1, 0));
        RingBars y = plain(4, "bend 0 thick;mass 0 1;");
        y.slice(0, 0, 1, 5, 5);
        y.goal(0, 0, 15000);
        fewest(y, "with a first slice that can't be shaved", 1);
    }

    private static void neverPast() {
        // two passes of slice 0 bring the tone to its goal; what it is between them tells whether they may be done
        String rest = "bend 0 18 when at=0 and thick<19;bend 0 20;mass 0 1;";
        RingBars x = plain(3, "bend 0 19 when at=0 and thick=19;" + rest);
        x.slack(0);
        x.goal(0, 0, 19333);
        fewest(x, "that is above its goal between", 0, 0);
        Due.law(x, 0, "bend 0 18 when at=0 and thick=19;" + rest);
        fewest(x, "that is at its goal between", 0);
        Due.law(x, 0, "bend 0 5 when at=0 and thick=19;" + rest);
        fewestIsNone(x, "that is lost between");
    }

    private static void fewestIsNone(RingBars x, String then) {
        Due.is("fewest " + then, -1, x.fewest(0, 0));
    }

    private static void order() {
        // slice 0 lifts tone 1, slice 1 takes off both: slice 0 must come first
        RingBars x = plain(3, "bend 0 thick*3 when at=1;mass 0 1;bend 1 100-thick when at=0;bend 1 thick when at=1;"
            + "mass 1 1;");
        x.slack(0);
        x.goal(0, 0, 19000);
        x.goal(0, 1, 33333);
        // now tone 1 is 100000 / 3; behind slice 1 it is 99000 / 3, lost; behind 0 and 1 it is 100000 / 3
        fewest(x, "of passes whose order matters", 0, 1);
        x.goal(0, 1, 33667);
        fewestIsNone(x, "of a tone that can't be met");
        // a bar that is lost now may be true behind passes
        RingBars y = plain(3, "bend 0 100-thick when at=1;mass 0 1;");
        y.slack(0);
        y.goal(0, 0, 27000);
        Due.is("lost now", 1, y.state(0, 2));
        fewest(y, "of one that a pass lifts", 1);
        y.goal(0, 0, 27333);
        fewestIsNone(y, "of one that would be lost behind the first pass");
    }

    private static void weight() {
        // passes of slice 0 take off what bends, passes of slice 1 what weighs
        RingBars x = plain(3, "bend 0 thick*10 when at=0;mass 0 thick when at=1;");
        x.slack(0);
        x.goal(0, 0, 10000);
        fewest(x, "of what weighs as it is");
        x.goal(0, 0, 10526);
        fewest(x, "of what weighs less", 1);
        x.goal(0, 0, 9500);
        fewest(x, "of what bends less", 0);
        // 180 by 19: not by 0 and 0 first, which is 180 by 20
        x.goal(0, 0, 9473);
        fewest(x, "of both", 0, 1, 0);
        x.goal(0, 0, 1);
        fewestIsNone(x, "of the least goal");
    }

    private static void bounds() {
        RingBars x = plain(8, "bend 0 thick;mass 0 1;");
        x.slack(0);
        x.goal(0, 0, 19375);
        fewest(x, "of five passes", 0, 0, 0, 0, 0);
        x.goal(0, 0, 19250);
        fewestIsNone(x, "of six passes");
        Due.is("fewest(0, -1)", -1, x.fewest(0, -1));
        Due.is("fewest(0, 7)", -1, x.fewest(0, 7));
        Due.is("fewest(0, 2147483647)", -1, x.fewest(0, Integer.MAX_VALUE));
        Due.is("fewest(1, 0)", -1, x.fewest(1, 0));
        Due.is("fewest(-1, 0)", -1, x.fewest(-1, 0));
        x.bar(9);
        Due.is("fewest of nine slices", -1, x.fewest(1, 0));
        x.bar(16);
        Due.is("fewest of sixteen slices", -1, x.fewest(2, 0));
    }
}
