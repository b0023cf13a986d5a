/** The boundaries of promise 20: how many slices and passes, which rows may be, what may be asked. */
public final class EdgesOfFewestTest {
    private static final int LEAST = Integer.MIN_VALUE;
    private static final int MOST = Integer.MAX_VALUE;

    public static void main(String[] args) {
        eightSlices();
        noneToFive();
        oneSliceAlone();
        passesOfOne();
        notLostBetween();
        trueBehindTheLast();
        slackAtTheGoal();
        eachTone();
        allTonesOfAllSlices();
        leastGoal();
        firstOfSeveral();
        whatIsAsked();
        nothingIsDone();
        refused();
        againAndAgain();
        Due.close();
    }

    private static RingBars lawed(int n, String law) {
        RingBars x = new RingBars();
        x.bar(n);
        Due.is("lines of " + law, true, Due.law(x, 0, law) >= 0);
        x.slack(0);
        return x;
    }

    /** A bar whose tone 0 is 1000 times what all slices are thick together. */
    private static RingBars plain(int n) {
        return lawed(n, "bend 0 thick;mass 0 1 when at=0;");
    }

    private static void row(RingBars x, String then, int... row) {
        Due.is("fewest " + then, row.length, x.fewest(0, 0));
        for (int i = 0; i < row.length; i++) {
            Due.is("fewest " + then + ", pass " + i, row[i], x.fewest(0, 1 + i));
        }
        Due.is("fewest " + then + ", behind the last", -1, x.fewest(0, 1 + row.length));
    }

    private static void none(RingBars x, String then) {
        for (int what = 0; what <= 6; what++) {
            Due.is("fewest(0, " + what + ") " + then, -1, x.fewest(0, what));
        }
    }

    private static void eightSlices() {
        Edge.says("Terms 2", "FEWEST of a BAR with up to 8 SLICES");
        Edge.says("Promise 20", "one can't be (more than 8 SLICES)");
        for (int n = 3; n <= 16; n++) {
            RingBars x = plain(n);
            if (n <= 8) {
                row(x, "without goals, of " + n);
            } else {
                none(x, "without goals, of " + n);
            }
            x.goal(0, 0, 20000 * n - 2000);
            if (n <= 8) {
                row(x, "of two passes, of " + n, 0, 0);
            } else {
                none(x, "of two passes, of " + n);
            }
        }
    }

    private static void noneToFive() {
        Edge.says("Terms 2", "the least number of PASSES of 1 (0 .. 5)");
        for (int n : new int[] {3, 8}) {
            RingBars x = plain(n);
            int[] row = {};
            for (int passes = 0; passes <= 5; passes++) {
                x.goal(0, 0, 20000 * n - 1000 * passes);
                row(x, "of " + passes + " passes", row);
                row = new int[passes + 1];
            }
            x.goal(0, 0, 20000 * n - 6000);
            none(x, "of six passes");
            x.goal(0, 0, 20000 * n + 1);
            none(x, "of a lost bar");
        }
    }

    /** Passes of one slice alone count, whichever it is. */
    private static void oneSliceAlone() {
        for (int i = 0; i < 8; i++) {
            RingBars x = lawed(8, "bend 0 thick when at=" + i + ";mass 0 1 when at=0;");
            x.goal(0, 0, 15000);
            row(x, "of slice " + i + " alone", i, i, i, i, i);
            x.goal(0, 0, 18000);
            row(x, "of slice " + i + " alone", i, i);
            // and two of the last one with three of this one
            RingBars y = lawed(8, "bend 0 thick when at=" + i + ";mass 0 1 when at=0;bend 1 thick when at=7;mass 1 1 when at=0;");
            y.goal(0, 0, i == 7 ? 15000 : 17000);
            y.goal(0, 1, i == 7 ? 15000 : 18000);
            row(y, "of slice " + i + " and the last", i, i, i, 7, 7);
        }
    }

    private static void passesOfOne() {
        // a slice can be shaved as long as it is above 1
        for (int thick = 1; thick <= 6; thick++) {
            RingBars x = plain(3);
            x.slice(0, 0, thick, 5, 5);
            x.slice(0, 1, 1, 5, 5);
            x.goal(0, 0, 1000 * (thick + 21 - 5));
            int[] row = {2, 2, 2, 2, 2};
            for (int i = 0; i < thick - 1; i++) {
                row[i] = 0;
            }
            row(x, "with a first slice of thick " + thick, row);
        }
        RingBars x = plain(3);
        int[] thick = {2, 3, 1};
        for (int i = 0; i < 3; i++) {
            x.slice(0, i, thick[i], 5, 5);
        }
        x.goal(0, 0, 3000);
        row(x, "down to thick 1 all over", 0, 1, 1);
        x.goal(0, 0, 2000);
        none(x, "below thick 1 all over");
    }

    private static void notLostBetween() {
        Edge.says("Terms 2", "one after another, behind each of which it is not LOST");
        // two passes of slice 0 bring tone 0 from 30000 to 28000, over 27999, 28000 or 28001
        String rest = "bend 0 30 when at=0 and thick=20;bend 0 28 when at=0;mass 0 1 when at=0;";
        int[][] rows = {{}, {0}, {0, 0}};
        for (int between = 27; between <= 29; between++) {
            RingBars x = lawed(3, "bend 0 " + between + " when at=0 and thick=19;" + rest);
            x.goal(0, 0, 28000);
            if (between == 27) {
                none(x, "that is lost between");
            } else {
                row(x, "over " + between, rows[30 - between == 2 ? 1 : 2]);
            }
        }
        // by slack it is not lost between
        RingBars x = lawed(3, "bend 0 27 when at=0 and thick=19;" + rest);
        x.slack(1000);
        x.goal(0, 0, 28000);
        row(x, "that is true by slack between", 0);
        x.slack(999);
        none(x, "that is lost by one between");
        // a row that is lost on one way may be gone on another
        RingBars y = lawed(3, "bend 0 thick when at=1;mass 0 1 when at=1;bend 1 50-thick when at=0;bend 1 thick when at=1;"
            + "mass 1 1 when at=0;");
        y.goal(0, 0, 19000);
        y.goal(0, 1, 50000);
        row(y, "in the order that is not lost", 0, 1);
    }

    private static void trueBehindTheLast() {
        Edge.says("Terms 2", "behind the last of which it is TRUE");
        RingBars x = plain(3);
        x.goal(0, 0, 59500);
        none(x, "of a goal between two passes");
        x.slack(499);
        none(x, "of a goal between two passes, with less slack");
        x.slack(500);
        row(x, "of a goal between two passes, with slack");
        x.goal(0, 0, 59499);
        row(x, "of a goal that slack brings near", 0);
        // lost now, but not behind the first pass
        RingBars y = lawed(3, "bend 0 99-thick when at=2;mass 0 1 when at=0;");
        y.goal(0, 0, 80000);
        row(y, "of a bar that is lost now", 2);
        y.goal(0, 0, 81000);
        none(y, "of a bar that is lost now and behind its first pass");
    }

    private static void slackAtTheGoal() {
        for (int slack : new int[] {0, 1, 9999}) {
            RingBars x = lawed(3, "bend 0 thick;mass 0 1 when at=0;");
            x.slack(slack);
            x.goal(0, 0, 57000 - slack);
            // above the goal by slack behind three passes, or by the fewest that bring it there
            row(x, "above its goal by slack " + slack, 0, 0, 0);
            x.goal(0, 0, 56999 - slack);
            if (slack < 500) {
                none(x, "of a goal that is passed");
            } else {
                row(x, "above its goal by one more than slack " + slack, 0, 0, 0, 0);
            }
            x.goal(0, 0, 60000 + slack);
            row(x, "below its goal by slack " + slack);
            x.goal(0, 0, 60001 + slack);
            none(x, "below its goal by one more than slack " + slack);
        }
    }

    private static void eachTone() {
        // tone k hangs on slice k
        RingBars x = lawed(8, "bend 0 thick when at=0;mass 0 1 when at=0;bend 1 thick when at=1;mass 1 1 when at=0;"
            + "bend 2 thick when at=7;mass 2 1 when at=0;");
        int[] slices = {0, 1, 7};
        for (int k = 0; k < 3; k++) {
            x.goal(0, k, 19000);
            row(x, "of tone " + k, slices[k]);
            x.goal(0, k, 20001);
            none(x, "of tone " + k + " lost");
            x.goal(0, k, 14000);
            none(x, "of tone " + k + " too far");
            x.goal(0, k, 0);
        }
        for (int k = 0; k < 3; k++) {
            x.goal(0, k, 19000);
        }
        row(x, "of three tones", 0, 1, 7);
        x.goal(0, 2, 17000);
        row(x, "of three tones", 0, 1, 7, 7, 7);
        x.goal(0, 1, 18000);
        none(x, "of three tones that need six passes");
    }

    /** Each slice counts for each tone, by other weights: no other row of as few passes brings all there. */
    private static void allTonesOfAllSlices() {
        int[][] rows = {{7}, {0}, {0, 7}, {0, 0, 7, 7}, {3, 7, 7, 7, 7}, {0, 0, 0, 0, 6}, {0, 1, 3, 6, 7}};
        for (int[] row : rows) {
            RingBars x = lawed(8, "bend 0 thick*at+thick;mass 0 1 when at=0;bend 1 thick*9-thick*at;mass 1 1 when at=0;"
                + "bend 2 thick*at*at*at+thick;mass 2 1 when at=0;");
            int[] tones = {x.tone(0, 0), x.tone(0, 1), x.tone(0, 2)};
            for (int i : row) {
                tones[0] -= 1000 * (i + 1);
                tones[1] -= 1000 * (9 - i);
                tones[2] -= 1000 * (i * i * i + 1);
            }
            for (int k = 0; k < 2; k++) {
                Due.is("goal of tone " + k, true, x.goal(0, k, tones[k]));
            }
            // tone 2 is above all goals as it is, so it is told by thousandths
            Due.law(x, 0, "bend 0 thick*at+thick;mass 0 1 when at=0;bend 1 thick*9-thick*at;mass 1 1 when at=0;"
                + "bend 2 thick*at*at*at+thick;mass 2 1000 when at=0;");
            Due.is("goal of tone 2", true, x.goal(0, 2, tones[2] / 1000));
            row(x, "of " + java.util.Arrays.toString(row), row);
        }
    }

    private static void leastGoal() {
        for (int k = 0; k < 3; k++) {
            RingBars x = lawed(3, "bend " + k + " thick when at=1;mass " + k + " 1000 when at=0;");
            x.slice(0, 1, 3, 5, 5);
            x.goal(0, k, 1);
            row(x, "of the least goal of tone " + k, 1, 1);
            x.goal(0, k, 4);
            none(x, "of a goal above tone " + k);
            x.goal(0, k, 0);
            row(x, "of no goal of tone " + k);
        }
        // a tone without a goal may be anything
        RingBars x = lawed(3, "bend 0 thick;mass 0 1 when at=0;bend 1 thick*99 when at=0;mass 1 1 when at=0;");
        x.goal(0, 0, 55000);
        row(x, "while another tone has no goal", 0, 0, 0, 0, 0);
        RingBars y = lawed(8, "bend 0 99999;mass 0 1 when at=0;bend 1 thick;mass 1 1 when at=0;");
        y.goal(0, 0, 999999);
        y.goal(0, 1, 159000);
        none(y, "of a tone that is above all goals");
    }

    private static void firstOfSeveral() {
        Edge.says("Terms 2", "of several rows of SLICES the first (by numbers, the first PASS first).");
        RingBars x = lawed(4, "bend 0 thick when at>0;mass 0 1 when at=0;bend 1 thick when at>1;mass 1 1 when at=0;");
        x.goal(0, 0, 57000);
        row(x, "of three rows that are alike", 1, 1, 1);
        x.goal(0, 1, 39000);
        row(x, "of several rows", 1, 1, 2);
        x.goal(0, 1, 38000);
        row(x, "of several rows", 1, 2, 2);
        x.goal(0, 1, 37000);
        row(x, "of several rows", 2, 2, 2);
        x.slice(0, 1, 1, 5, 5);
        x.goal(0, 0, 38000);
        x.goal(0, 1, 0);
        row(x, "of slices that can be shaved", 2, 2, 2);
        // fewer passes come before lesser numbers
        RingBars y = lawed(3, "bend 0 thick*2 when at=2;bend 0 thick;mass 0 1 when at=0;");
        y.goal(0, 0, 76000);
        row(y, "of fewer passes", 2, 2);
        y.goal(0, 0, 75000);
        row(y, "of fewer passes", 0, 2, 2);
    }

    private static void whatIsAsked() {
        Edge.says("Promise 20", "what 0 how many, 1 + i the SLICE of the i-th (from 0). NONE if there is none such");
        RingBars x = lawed(8, "bend 0 thick when at=6;mass 0 1 when at=0;");
        x.goal(0, 0, 15000);
        Due.is("fewest(0, 0)", 5, x.fewest(0, 0));
        Due.is("fewest(0, 1)", 6, x.fewest(0, 1));
        Due.is("fewest(0, 5)", 6, x.fewest(0, 5));
        for (int what : new int[] {6, 7, -1, MOST, LEAST}) {
            Due.is("fewest(0, " + what + ")", -1, x.fewest(0, what));
        }
        x.goal(0, 0, 19000);
        Due.is("fewest(0, 1) of one", 6, x.fewest(0, 1));
        Due.is("fewest(0, 2) of one", -1, x.fewest(0, 2));
        Due.is("fewest(0, 5) of one", -1, x.fewest(0, 5));
        x.goal(0, 0, 0);
        Due.is("fewest(0, 0) of none", 0, x.fewest(0, 0));
        Due.is("fewest(0, 1) of none", -1, x.fewest(0, 1));
    }

    private static void nothingIsDone() {
        Edge.says("Terms 2", "Nothing is done.");
        RingBars x = Edge.told();
        Due.is("fewest of bar 1", 2, x.fewest(1, 0));
        Edge.refused("fewest(1, 0)", 2, y -> y.fewest(1, 0));
        Edge.refused("fewest(1, 2)", 0, y -> y.fewest(1, 2));
        Edge.refused("fewest(1, 3)", -1, y -> y.fewest(1, 3));
    }

    private static void refused() {
        int[][] none = {{2, 0}, {-1, 0}, {MOST, 0}, {LEAST, 0}, {1, -1}, {1, 6}, {1, MOST}, {1, LEAST}};
        for (int[] n : none) {
            Edge.refused("fewest(" + n[0] + ", " + n[1] + ")", -1, y -> y.fewest(n[0], n[1]));
        }
        Edge.refused("fewest of nine slices", -1, y -> y.bar(9), y -> y.fewest(2, 0));
    }

    /** What was found before does not count: bars and goals of other sizes between. */
    private static void againAndAgain() {
        RingBars x = plain(8);
        x.bar(3);
        for (int turn = 0; turn < 3; turn++) {
            x.goal(0, 0, 155000);
            Due.is("fewest of eight slices", 5, x.fewest(0, 0));
            x.goal(1, 0, 58000);
            Due.is("fewest of three slices", 2, x.fewest(1, 0));
            x.goal(0, 0, 154000);
            Due.is("fewest that can't be", -1, x.fewest(0, 0));
            Due.is("fewest of three slices", 0, x.fewest(1, 2));
            x.goal(1, 0, 60000);
            Due.is("fewest of none", 0, x.fewest(1, 0));
        }
        // a goal that is none again does not count, though by it what bends and what weighs had been looked at
        RingBars y = lawed(3, "bend 0 thick;mass 0 1 when at=0;bend 1 200-thick*5;mass 1 100-thick;");
        y.goal(0, 0, 59000);
        y.goal(0, 1, y.tone(0, 1) + 1);
        none(y, "with a goal of tone 1");
        y.goal(0, 1, 0);
        row(y, "when the goal of tone 1 is none again", 0);
    }
}
