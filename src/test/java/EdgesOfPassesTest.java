/** The boundaries of promises 13 to 18: what can be shaved, how many passes are kept, when a bar is lost or true. */
public final class EdgesOfPassesTest {
    private static final int LEAST = Integer.MIN_VALUE;
    private static final int MOST = Integer.MAX_VALUE;

    public static void main(String[] args) {
        thickAboveDepth();
        depths();
        noSuchPass();
        twoHundred();
        lostByTheLastPass();
        passes();
        goals();
        goalsAtFirst();
        goalRefused();
        slack();
        lost();
        isTrue();
        slackBeyondTheGoal();
        eachTone();
        lostBy();
        lostByChangesNot();
        lostByOfALostBar();
        lostByTheLawThen();
        states();
        takes();
        takesRefused();
        Due.close();
    }

    /** A bar whose tone 0 is 1000 times what all slices are thick together; tones 1 and 2 hang on wax and grain. */
    private static RingBars plain(int n) {
        RingBars x = new RingBars();
        x.bar(n);
        Due.law(x, 0, "bend 0 thick;mass 0 1 when at=0;bend 1 200-wax;mass 1 1;bend 2 grain;mass 2 1;");
        return x;
    }

    private static void thickAboveDepth() {
        Edge.says("Terms 2", "A PASS takes a depth d (1 .. 9) off a SLICE whose THICK is above d");
        for (int d = 1; d <= 9; d++) {
            RingBars x = plain(3);
            x.slice(0, 1, d + 1, 5, 5);
            x.slice(0, 2, d, 5, 5);
            Due.is("shave of thick " + d + " by " + d, -1, x.shave(0, 2, d));
            Due.is("thick", d, x.of(0, 2, 0));
            Due.is("no pass is kept", 0, x.state(0, 1));
            Due.is("shave of thick " + (d + 1) + " by " + d, 1, x.shave(0, 1, d));
            Due.is("thick", 1, x.of(0, 1, 0));
            Due.is("pass(0, 1, 0)", 1, x.pass(0, 1, 0));
            Due.is("pass(0, 1, 1)", d, x.pass(0, 1, 1));
            Due.is("shave of thick 1", -1, x.shave(0, 1, 1));
        }
        RingBars x = plain(3);
        x.slice(0, 0, 99, 5, 5);
        Due.is("shave of the thickest", 1, x.shave(0, 0, 9));
        Due.is("thick", 90, x.of(0, 0, 0));
    }

    private static void depths() {
        for (int d : new int[] {0, 10, -1, -9, 19, LEAST, MOST}) {
            Edge.refused("shave(0, 3, " + d + ")", -1, x -> x.shave(0, 3, d));
        }
    }

    private static void noSuchPass() {
        Edge.says("Promise 13", "NONE if one can't be (THICK is not above d)");
        RingBars x = Edge.told();
        Due.is("shave of the first slice", 3, x.shave(0, 0, 1));
        Due.is("shave of the last slice", 4, x.shave(0, 3, 1));
        Due.is("shave of the last bar's last slice", 1, x.shave(1, 2, 1));
        int[][] none = {{0, 4}, {0, -1}, {0, MOST}, {0, LEAST}, {1, 3}, {2, 0}, {-1, 0}, {MOST, 0}, {LEAST, 0}};
        for (int[] n : none) {
            Edge.refused("shave(" + n[0] + ", " + n[1] + ", 1)", -1, y -> y.shave(n[0], n[1], 1));
        }
        // slice 0 of bar 0 is 17 thick
        Edge.refused("shave of all that is thick", -1, y -> {
            y.shave(0, 0, 8);
            y.shave(0, 0, 1);
        }, y -> y.shave(0, 0, 8));
        Edge.refused("shave of more than is thick", -1, y -> y.shave(0, 0, 9), y -> y.shave(0, 0, 9));
    }

    /** A bar of three slices on which so many passes are kept. */
    private static RingBars shaved(int passes) {
        RingBars x = plain(3);
        for (int i = 0; i < 3; i++) {
            x.slice(0, i, 99, 5, 5);
        }
        Due.job(x, 0, "shave 0 1;shave 1 1;shave 2 1;shave 0 1;shave 1 1;");
        int kept = 0;
        while (kept < passes - 4) {
            kept += x.job(0, 0);
        }
        while (kept < passes) {
            kept = x.shave(0, kept % 3, 1);
        }
        Due.is("passes kept", passes, x.state(0, 1));
        return x;
    }

    private static void twoHundred() {
        Edge.says("Terms 2", "it is kept (200 a BAR)");
        Edge.says("Promise 13", "or 200 are kept.");
        RingBars x = shaved(199);
        Due.is("the 200th pass", 200, x.shave(0, 1, 7));
        int thick = x.of(0, 0, 0);
        int tone = x.tone(0, 0);
        for (int i = 0; i < 3; i++) {
            Due.is("the 201st pass", -1, x.shave(0, i, 1));
        }
        Due.is("thick as it was", thick, x.of(0, 0, 0));
        Due.is("tone as it was", tone, x.tone(0, 0));
        Due.is("state(0, 1)", 200, x.state(0, 1));
        Due.is("pass(0, 199, 0)", 198 % 3, x.pass(0, 199, 0));
        Due.is("pass(0, 199, 1)", 1, x.pass(0, 199, 1));
        Due.is("pass(0, 200, 0)", 1, x.pass(0, 200, 0));
        Due.is("pass(0, 200, 1)", 7, x.pass(0, 200, 1));
        Due.is("pass(0, 201, 0)", -1, x.pass(0, 201, 0));
        x.bar(3);
        Due.is("a pass of another bar", 1, x.shave(1, 0, 1));
        Due.is("pass(1, 1, 0)", 0, x.pass(1, 1, 0));
        Due.is("pass(1, 2, 0)", -1, x.pass(1, 2, 0));
    }

    private static void lostByTheLastPass() {
        RingBars x = shaved(199);
        x.slack(0);
        x.goal(0, 0, x.tone(0, 0));
        Due.is("the 200th pass", 200, x.shave(0, 0, 1));
        Due.is("LOST BY", 200, x.state(0, 4));
        RingBars y = shaved(200);
        y.goal(0, 0, 999999);
        Due.is("the 201st pass", -1, y.shave(0, 0, 1));
        Due.is("LOST", 1, y.state(0, 2));
        Due.is("LOST BY no pass that can't be", 0, y.state(0, 4));
    }

    private static void passes() {
        Edge.says("Promise 14", "NONE if there is none such, or another what.");
        RingBars x = Edge.told();
        Due.is("pass(0, 1, 0)", 2, x.pass(0, 1, 0));
        Due.is("pass(0, 1, 1)", 1, x.pass(0, 1, 1));
        Due.is("pass(0, 2, 0)", 0, x.pass(0, 2, 0));
        Due.is("pass(0, 2, 1)", 3, x.pass(0, 2, 1));
        int[][] none = {{0, 0, 0}, {0, 3, 0}, {0, 3, 1}, {0, -1, 0}, {0, MOST, 0}, {0, LEAST, 0}, {0, 1, 2}, {0, 1, -1},
            {0, 1, MOST}, {0, 1, LEAST}, {1, 1, 0}, {1, 0, 0}, {2, 1, 0}, {-1, 1, 0}, {MOST, 1, 0}, {LEAST, 1, 0}};
        for (int[] n : none) {
            Edge.refused("pass(" + n[0] + ", " + n[1] + ", " + n[2] + ")", -1, y -> y.pass(n[0], n[1], n[2]));
        }
    }

    private static void goals() {
        Edge.says("Terms 2", "GOALS of a BAR are 0 .. 999999 for TONES 0, 1, 2");
        RingBars x = plain(3);
        x.bar(3);
        for (int k = 0; k < 3; k++) {
            for (int v : new int[] {999999, 1, 0, 999998}) {
                Due.is("goal(0, " + k + ", " + v + ")", true, x.goal(0, k, v));
                Due.is("state(0, " + (5 + k) + ")", v, x.state(0, 5 + k));
            }
            Due.is("goal of the other bar", 0, x.state(1, 5 + k));
        }
        for (int v : new int[] {1000000, -1, MOST, LEAST}) {
            for (int k = 0; k < 3; k++) {
                int tone = k;
                Edge.denied("goal(0, " + k + ", " + v + ")", y -> y.goal(0, tone, v));
            }
        }
    }

    private static void goalsAtFirst() {
        Edge.says("Terms 2", "(0: none, as at first)");
        RingBars x = plain(3);
        for (int k = 0; k < 3; k++) {
            Due.is("goal " + k + " at first", 0, x.state(0, 5 + k));
        }
        x.slack(0);
        Due.is("LOST without goals", 0, x.state(0, 2));
        Due.is("TRUE without goals", 1, x.state(0, 3));
        x.goal(0, 0, 1);
        Due.is("LOST with the least goal", 0, x.state(0, 2));
        Due.is("TRUE with the least goal", 0, x.state(0, 3));
        x.goal(0, 0, 0);
        Due.is("TRUE when the goal is none again", 1, x.state(0, 3));
        Due.law(x, 0, "");
        x.goal(0, 0, 1);
        Due.is("LOST of tone 0 with the least goal", 1, x.state(0, 2));
        Due.is("TRUE of tone 0 with the least goal", 0, x.state(0, 3));
        Due.is("no pass was kept", 0, x.state(0, 4));
        Due.is("shave(0, 0, 1)", 1, x.shave(0, 0, 1));
        Due.is("LOST BY with the least goal", 1, x.state(0, 4));
        x.goal(0, 0, 0);
        Due.is("LOST with none", 0, x.state(0, 2));
        Due.is("TRUE with none", 1, x.state(0, 3));
    }

    private static void goalRefused() {
        Edge.says("Promise 15", "A GOAL of a BAR: true; false if one can't be.");
        int[][] none = {{0, 3}, {0, -1}, {0, MOST}, {0, LEAST}, {2, 0}, {-1, 0}, {MOST, 0}, {LEAST, 0}};
        for (int[] n : none) {
            Edge.denied("goal(" + n[0] + ", " + n[1] + ", 5)", y -> y.goal(n[0], n[1], 5));
        }
    }

    private static void slack() {
        Edge.says("Terms 2", "SLACK 0 .. 9999 (10 at first) is one for all.");
        Edge.says("Promise 16", "SLACK: true; false if it can't be.");
        RingBars x = plain(3);
        Due.is("look(4) at first", 10, x.look(4));
        for (int v : new int[] {9999, 0, 9998, 1}) {
            Due.is("slack(" + v + ")", true, x.slack(v));
            Due.is("look(4)", v, x.look(4));
        }
        for (int v : new int[] {10000, -1, MOST, LEAST}) {
            Edge.denied("slack(" + v + ")", y -> y.slack(v));
        }
        x.bar(3);
        x.goal(0, 0, 60005);
        x.goal(1, 0, 60005);
        Due.is("LOST bars by slack 1", 2, x.look(6));
        x.slack(5);
        Due.is("LOST bars by slack 5", 0, x.look(6));
        Due.is("TRUE bars by slack 5", 2, x.look(7));
        x.slack(4);
        Due.is("LOST bars by slack 4", 2, x.look(6));
    }

    private static void lost() {
        Edge.says("Terms 2", "A BAR is LOST, if a TONE with a GOAL is below GOAL less SLACK");
        for (int slack : new int[] {0, 1, 10, 9999}) {
            RingBars x = plain(3);
            x.slack(slack);
            x.goal(0, 0, 60000 + slack);
            Due.is("LOST at goal less slack " + slack, 0, x.state(0, 2));
            Due.is("TRUE at goal less slack " + slack, 1, x.state(0, 3));
            x.goal(0, 0, 60001 + slack);
            Due.is("LOST one below goal less slack " + slack, 1, x.state(0, 2));
            Due.is("TRUE one below goal less slack " + slack, 0, x.state(0, 3));
        }
    }

    private static void isTrue() {
        Edge.says("Terms 2", "TRUE, if each TONE with a GOAL is not farther from it than SLACK.");
        for (int slack : new int[] {0, 1, 10, 9999}) {
            RingBars x = plain(3);
            x.slack(slack);
            x.goal(0, 0, 60000 - slack);
            Due.is("LOST above the goal by slack " + slack, 0, x.state(0, 2));
            Due.is("TRUE above the goal by slack " + slack, 1, x.state(0, 3));
            x.goal(0, 0, 59999 - slack);
            Due.is("LOST above the goal by one more than slack " + slack, 0, x.state(0, 2));
            Due.is("TRUE above the goal by one more than slack " + slack, 0, x.state(0, 3));
        }
    }

    private static void slackBeyondTheGoal() {
        RingBars x = plain(3);
        Due.law(x, 0, "");
        x.goal(0, 0, 9999);
        x.slack(9999);
        Due.is("LOST of tone 0, goal less slack being 0", 0, x.state(0, 2));
        Due.is("TRUE of tone 0, goal less slack being 0", 1, x.state(0, 3));
        x.goal(0, 0, 10000);
        Due.is("LOST of tone 0, goal less slack being 1", 1, x.state(0, 2));
        x.goal(0, 0, 1);
        Due.is("LOST of tone 0, goal less slack being below 0", 0, x.state(0, 2));
        Due.is("TRUE of tone 0, goal less slack being below 0", 1, x.state(0, 3));
        // the greatest tone and the greatest goal
        RingBars y = plain(16);
        Due.law(y, 0, "bend 0 99999;mass 0 1 when at=0;");
        y.goal(0, 0, 999999);
        y.goal(0, 1, 999999);
        Due.is("LOST by the greatest goal", 1, y.state(0, 2));
        y.goal(0, 1, 0);
        Due.is("LOST of the greatest tone", 0, y.state(0, 2));
        Due.is("TRUE of the greatest tone", 0, y.state(0, 3));
    }

    private static void eachTone() {
        // tones are 60000, 200000 and 5000
        int[] tones = {60000, 200000, 5000};
        for (int k = 0; k < 3; k++) {
            RingBars x = plain(3);
            x.slack(0);
            for (int other = 0; other < 3; other++) {
                x.goal(0, other, tones[other]);
            }
            Due.is("LOST with goals that are met", 0, x.state(0, 2));
            Due.is("TRUE with goals that are met", 1, x.state(0, 3));
            x.goal(0, k, tones[k] + 1);
            Due.is("LOST by tone " + k, 1, x.state(0, 2));
            Due.is("TRUE with tone " + k + " below", 0, x.state(0, 3));
            Due.is("look(6)", 1, x.look(6));
            x.goal(0, k, tones[k] - 1);
            Due.is("LOST with tone " + k + " above", 0, x.state(0, 2));
            Due.is("TRUE with tone " + k + " above", 0, x.state(0, 3));
            Due.is("look(7)", 0, x.look(7));
        }
    }

    private static void lostBy() {
        Edge.says("Terms 2", "LOST BY is the number of the first PASS (1, 2, ..) behind which it was LOST");
        RingBars x = plain(3);
        x.slack(1000);
        x.goal(0, 0, 58000);
        int[] by = {0, 0, 0, 4, 4};
        for (int p = 1; p <= 5; p++) {
            Due.is("LOST BY before pass " + p, p == 1 ? 0 : by[p - 2], x.state(0, 4));
            x.shave(0, p % 3, 1);
            Due.is("LOST BY behind pass " + p, by[p - 1], x.state(0, 4));
        }
        RingBars y = plain(3);
        y.goal(0, 0, 59999);
        y.slack(0);
        y.shave(0, 0, 1);
        Due.is("LOST BY the first pass", 1, y.state(0, 4));
        y.bar(3);
        Due.is("LOST BY of another bar", 0, y.state(1, 4));
    }

    private static void lostByChangesNot() {
        Edge.says("Terms 2", "(0: none yet; told GOALS, SLACK, WAX change nothing of that)");
        RingBars x = plain(3);
        x.goal(0, 1, 199990);
        x.shave(0, 0, 1);
        Due.is("LOST BY", 0, x.state(0, 4));
        x.wax(0, 0, 1);
        Due.is("LOST by told wax", 1, x.state(0, 2));
        Due.is("LOST BY of told wax", 0, x.state(0, 4));
        x.wax(0, 0, 0);
        x.goal(0, 0, 60000);
        Due.is("LOST by a told goal", 1, x.state(0, 2));
        Due.is("LOST BY of a told goal", 0, x.state(0, 4));
        x.goal(0, 0, 59005);
        x.slack(0);
        Due.is("LOST by told slack", 1, x.state(0, 2));
        Due.is("LOST BY of told slack", 0, x.state(0, 4));
        Due.job(x, 0, "wax 0 99;");
        x.job(0, 0);
        Due.is("LOST BY of a job's wax", 0, x.state(0, 4));
        x.force(1);
        Due.is("LOST by another law", 1, x.state(0, 2));
        Due.is("LOST BY of another law", 0, x.state(0, 4));
        x.force(0);
        x.shave(0, 1, 1);
        Due.is("LOST BY the second pass", 2, x.state(0, 4));
        x.slack(9999);
        x.goal(0, 0, 0);
        x.goal(0, 1, 0);
        x.wax(0, 0, 0);
        Due.is("LOST no more", 0, x.state(0, 2));
        Due.is("LOST BY, though not LOST", 2, x.state(0, 4));
        x.shave(0, 1, 1);
        x.goal(0, 0, 999999);
        x.shave(0, 1, 1);
        Due.is("LOST BY, though LOST again", 2, x.state(0, 4));
        Due.law(x, 0, "bend 0 1;");
        Due.is("LOST BY, though the law is another", 2, x.state(0, 4));
    }

    private static void lostByOfALostBar() {
        RingBars x = plain(3);
        x.goal(0, 0, 90000);
        Due.is("LOST from the first", 1, x.state(0, 2));
        Due.is("LOST BY no pass yet", 0, x.state(0, 4));
        Due.is("a pass that can't be", -1, x.shave(0, 0, 10));
        Due.is("LOST BY no pass yet", 0, x.state(0, 4));
        x.shave(0, 0, 1);
        Due.is("LOST BY the first pass behind which it was lost", 1, x.state(0, 4));
        // a bar that a pass finds again is not lost behind it
        RingBars y = plain(3);
        Due.law(y, 0, "bend 0 99-thick when at=0;mass 0 1 when at=0;");
        y.slack(0);
        y.goal(0, 0, 80000);
        Due.is("LOST from the first", 1, y.state(0, 2));
        y.shave(0, 0, 1);
        Due.is("LOST no more", 0, y.state(0, 2));
        Due.is("LOST BY", 0, y.state(0, 4));
    }

    private static void lostByTheLawThen() {
        Edge.says("Terms 2", "by the LAW IN FORCE then");
        RingBars x = plain(3);
        x.slack(0);
        x.goal(0, 0, 58000);
        Due.law(x, 1, "bend 0 60 when thick=20;bend 0 1;mass 0 3;");
        x.shave(0, 0, 1);
        Due.is("not LOST by law 0", 0, x.state(0, 4));
        x.force(1);
        Due.is("LOST by law 1", 1, x.state(0, 2));
        Due.is("LOST BY, force told", 0, x.state(0, 4));
        x.shave(0, 0, 1);
        Due.is("LOST BY by law 1", 2, x.state(0, 4));
        x.force(0);
        Due.is("not LOST by law 0", 0, x.state(0, 2));
        Due.is("LOST BY, force told back", 2, x.state(0, 4));
    }

    private static void states() {
        Edge.says("Promise 17", "NONE - 1 if there is none such, or another what.");
        RingBars x = Edge.told();
        int[] want = {4, 2, 1, 0, 1, 15000, 21000, 0, 2, 2};
        for (int what = 0; what < 10; what++) {
            Due.is("state(0, " + what + ")", want[what], x.state(0, what));
        }
        int[][] none = {{0, 10}, {0, -1}, {0, 11}, {0, MOST}, {0, LEAST}, {2, 0}, {2, 9}, {-1, 0}, {MOST, 0}, {LEAST, 0}};
        for (int[] n : none) {
            Edge.refused("state(" + n[0] + ", " + n[1] + ")", -2, y -> y.state(n[0], n[1]));
        }
    }

    private static void takes() {
        Edge.says("Terms 2", "TAKES of a SLICE for a TONE: TONE as it is less TONE with THICK one less.");
        RingBars x = plain(3);
        x.slice(0, 0, 99, 5, 5);
        x.slice(0, 1, 2, 5, 5);
        x.slice(0, 2, 1, 5, 5);
        Due.is("takes of the thickest", 1000, x.takes(0, 0, 0));
        Due.is("takes of thick 2", 1000, x.takes(0, 1, 0));
        Due.is("takes of thick 1", -10000000, x.takes(0, 2, 0));
        Due.is("takes nothing off tone 2", 0, x.takes(0, 0, 2));
        Due.is("nothing is taken", 99, x.of(0, 0, 0));
        Due.is("nothing is taken", 2, x.of(0, 1, 0));
        Due.is("no pass is kept", 0, x.state(0, 1));
        Due.law(x, 0, "bend 0 99999 when thick>98;mass 0 1 when at=0;bend 1 99999 when thick=98;mass 1 1 when at=0;"
            + "bend 2 1;mass 2 thick;");
        Due.is("takes all", 99999000, x.takes(0, 0, 0));
        Due.is("takes less than nothing", -99999000, x.takes(0, 0, 1));
        Due.is("takes of mass", 29 - 29, x.takes(0, 0, 2));
        Due.is("takes of mass", 3000 / 102 - 3000 / 101, x.takes(0, 1, 2));
        RingBars y = new RingBars();
        y.bar(16);
        Due.law(y, 0, "bend 0 99999;mass 0 1 when at=15 and thick=20;bend 1 99999;mass 1 1 when at=15 and thick=19;");
        Due.is("the greatest that is taken", 1599984000, y.takes(0, 15, 0));
        Due.is("the least that is taken", -1599984000, y.takes(0, 15, 1));
    }

    private static void takesRefused() {
        Edge.says("Promise 18", "NONE - 9999999 if one can't be (THICK 1).");
        RingBars x = Edge.told();
        Due.is("takes(0, 3, 0)", 192, x.takes(0, 3, 0));
        Due.is("takes(1, 2, 0)", 214, x.takes(1, 2, 0));
        int[][] none = {{0, 4, 0}, {0, -1, 0}, {0, MOST, 0}, {0, LEAST, 0}, {1, 3, 0}, {0, 0, 3}, {0, 0, -1}, {0, 0, MOST},
            {0, 0, LEAST}, {2, 0, 0}, {-1, 0, 0}, {MOST, 0, 0}, {LEAST, 0, 0}};
        for (int[] n : none) {
            Edge.refused("takes(" + n[0] + ", " + n[1] + ", " + n[2] + ")", -10000000, y -> y.takes(n[0], n[1], n[2]));
        }
        Edge.refused("takes of thick 1", -10000000, y -> y.slice(1, 2, 1, 5, 5), y -> y.takes(1, 2, 0));
    }
}
