/** Promises 13 to 18: passes, goals, slack, what a bar is, what a pass would take. */
public final class PassesTest {
    public static void main(String[] args) {
        passes();
        twoHundred();
        goals();
        lostAndTrue();
        lostBy();
        takes();
        Due.close();
    }

    private static RingBars plain(int n) {
        RingBars x = new RingBars();
        x.bar(n);
        // tone 0: the mean of thick, times 1000; tone 1: ten times as much; tone 2: the more, the thinner
        Due.law(x, 0, "bend 0 thick;mass 0 1;bend 1 thick*10;mass 1 1;bend 2 100-thick;mass 2 1;");
        return x;
    }

    private static void passes() {
        RingBars x = plain(4);
        Due.is("shave(0, 1, 9)", 1, x.shave(0, 1, 9));
        Due.is("shave(0, 1, 9)", 2, x.shave(0, 1, 9));
        Due.is("of(0, 1, 0)", 2, x.of(0, 1, 0));
        Due.is("shave of all that is thick", -1, x.shave(0, 1, 2));
        Due.is("shave(0, 1, 1)", 3, x.shave(0, 1, 1));
        Due.is("shave of thick 1", -1, x.shave(0, 1, 1));
        Due.is("shave(0, 3, 5)", 4, x.shave(0, 3, 5));
        int[][] wrong = {{0, 0, 0}, {0, 0, 10}, {0, 0, -1}, {0, 4, 1}, {0, -1, 1}, {1, 0, 1}, {-1, 0, 1},
            {0, 0, Integer.MIN_VALUE}};
        for (int[] w : wrong) {
            Due.is("shave" + java.util.Arrays.toString(w), -1, x.shave(w[0], w[1], w[2]));
        }
        Due.is("of(0, 0, 0)", 20, x.of(0, 0, 0));
        int[][] kept = {{1, 9}, {1, 9}, {1, 1}, {3, 5}};
        for (int p = 1; p <= 4; p++) {
            Due.is("pass(0, " + p + ", 0)", kept[p - 1][0], x.pass(0, p, 0));
            Due.is("pass(0, " + p + ", 1)", kept[p - 1][1], x.pass(0, p, 1));
        }
        Due.is("pass(0, 0, 0)", -1, x.pass(0, 0, 0));
        Due.is("pass(0, 5, 0)", -1, x.pass(0, 5, 0));
        Due.is("pass(0, -1, 0)", -1, x.pass(0, -1, 0));
        Due.is("pass(0, 1, 2)", -1, x.pass(0, 1, 2));
        Due.is("pass(0, 1, -1)", -1, x.pass(0, 1, -1));
        Due.is("pass(1, 1, 0)", -1, x.pass(1, 1, 0));
        Due.is("state(0, 1)", 4, x.state(0, 1));
        Due.is("tone behind passes", (20 + 1 + 20 + 15) * 1000 / 4, x.tone(0, 0));
    }

    private static void twoHundred() {
        RingBars x = plain(3);
        for (int i = 0; i < 3; i++) {
            x.slice(0, i, 99, 5, 5);
        }
        for (int p = 1; p <= 200; p++) {
            Due.is("shave " + p, p, x.shave(0, p % 3, 1));
        }
        Due.is("the 201st", -1, x.shave(0, 0, 1));
        Due.is("state(0, 1)", 200, x.state(0, 1));
        Due.is("pass(0, 200, 0)", 2, x.pass(0, 200, 0));
        Due.is("pass(0, 201, 0)", -1, x.pass(0, 201, 0));
        Due.is("of(0, 0, 0)", 99 - 66, x.of(0, 0, 0));
        x.bar(3);
        Due.is("shave of another bar", 1, x.shave(1, 0, 1));
    }

    private static void goals() {
        RingBars x = plain(4);
        Due.is("goal(0, 0, 999999)", true, x.goal(0, 0, 999999));
        Due.is("goal(0, 1, 5)", true, x.goal(0, 1, 5));
        Due.is("goal(0, 2, 7)", true, x.goal(0, 2, 7));
        int[][] wrong = {{0, 0, 1000000}, {0, 0, -1}, {0, 3, 1}, {0, -1, 1}, {1, 0, 1}, {-1, 0, 1}};
        for (int[] w : wrong) {
            Due.is("goal" + java.util.Arrays.toString(w), false, x.goal(w[0], w[1], w[2]));
        }
        Due.is("state(0, 5)", 999999, x.state(0, 5));
        Due.is("state(0, 6)", 5, x.state(0, 6));
        Due.is("state(0, 7)", 7, x.state(0, 7));
        Due.is("goal(0, 0, 0)", true, x.goal(0, 0, 0));
        Due.is("state(0, 5)", 0, x.state(0, 5));
        Due.is("state(0, 10)", -2, x.state(0, 10));
        Due.is("state(0, -1)", -2, x.state(0, -1));
        Due.is("state(1, 0)", -2, x.state(1, 0));
        Due.is("state(-1, 0)", -2, x.state(-1, 0));
        Due.is("slack(9999)", true, x.slack(9999));
        Due.is("slack(10000)", false, x.slack(10000));
        Due.is("slack(-1)", false, x.slack(-1));
        Due.is("look(4)", 9999, x.look(4));
        Due.is("slack(0)", true, x.slack(0));
        Due.is("look(4)", 0, x.look(4));
    }

    private static void state(RingBars x, String then, int lost, int isTrue) {
        Due.is("LOST with " + then, lost, x.state(0, 2));
        Due.is("TRUE with " + then, isTrue, x.state(0, 3));
    }

    private static void lostAndTrue() {
        RingBars x = plain(4);
        state(x, "no goals", 0, 1);
        x.goal(0, 0, 20010);
        state(x, "a goal above by slack", 0, 1);
        x.goal(0, 0, 20011);
        state(x, "a goal above by more", 1, 0);
        Due.is("look(6)", 1, x.look(6));
        Due.is("look(7)", 0, x.look(7));
        x.goal(0, 0, 19990);
        state(x, "a goal below by slack", 0, 1);
        x.goal(0, 0, 19989);
        state(x, "a goal below by more", 0, 0);
        x.slack(11);
        state(x, "more slack", 0, 1);
        x.goal(0, 1, 300000);
        state(x, "another tone lost", 1, 0);
        x.goal(0, 1, 200000);
        x.goal(0, 2, 70000);
        state(x, "the third tone too high", 0, 0);
        x.goal(0, 2, 90000);
        state(x, "the third tone lost", 1, 0);
        x.goal(0, 2, 0);
        state(x, "no third goal", 0, 1);
    }

    private static void lostBy() {
        RingBars x = plain(4);
        x.goal(0, 0, 19000);
        Due.is("LOST BY at first", 0, x.state(0, 4));
        x.shave(0, 0, 3);
        Due.is("LOST BY not yet", 0, x.state(0, 4));
        x.goal(0, 0, 30000);
        Due.is("LOST by a told goal", 1, x.state(0, 2));
        Due.is("LOST BY of a told goal", 0, x.state(0, 4));
        x.goal(0, 0, 19000);
        x.shave(0, 0, 1);
        Due.is("LOST BY at the goal", 0, x.state(0, 4));
        x.shave(0, 0, 1);
        Due.is("LOST BY", 3, x.state(0, 4));
        x.shave(0, 0, 1);
        Due.is("LOST BY, further", 3, x.state(0, 4));
        x.goal(0, 0, 0);
        Due.is("LOST no more", 0, x.state(0, 2));
        Due.is("LOST BY, without a goal", 3, x.state(0, 4));
        x.bar(4);
        x.force(1);
        x.goal(1, 0, 500);
        x.shave(1, 0, 1);
        Due.is("LOST BY by the law in force", 1, x.state(1, 4));
        x.force(0);
        Due.is("LOST BY stays by another law", 1, x.state(1, 4));
        x.bar(4);
        x.goal(2, 2, 80500);
        Due.is("LOST from the first", 1, x.state(2, 2));
        x.shave(2, 0, 9);
        Due.is("LOST no more behind a pass that lifts", 0, x.state(2, 4));
        x.bar(4);
        x.slack(9999);
        x.goal(3, 0, 28999);
        x.shave(3, 0, 4);
        Due.is("LOST BY with slack", 0, x.state(3, 4));
        x.slack(9998);
        Due.is("LOST by told slack", 1, x.state(3, 2));
        Due.is("LOST BY of told slack", 0, x.state(3, 4));
    }

    private static void takes() {
        RingBars x = plain(3);
        Due.is("takes(0, 0, 0)", 20000 - 19666, x.takes(0, 0, 0));
        Due.is("takes(0, 0, 1)", 200000 - 196666, x.takes(0, 0, 1));
        Due.is("takes(0, 0, 2)", 80000 - 80333, x.takes(0, 0, 2));
        Due.is("nothing is taken", 20, x.of(0, 0, 0));
        x.slice(0, 1, 1, 5, 5);
        Due.is("takes of thick 1", -10000000, x.takes(0, 1, 0));
        x.slice(0, 1, 2, 5, 5);
        Due.is("takes of thick 2", 14000 - 13666, x.takes(0, 1, 0));
        int[][] wrong = {{0, 3, 0}, {0, -1, 0}, {0, 0, 3}, {0, 0, -1}, {1, 0, 0}, {-1, 0, 0}};
        for (int[] w : wrong) {
            Due.is("takes" + java.util.Arrays.toString(w), -10000000, x.takes(w[0], w[1], w[2]));
        }
    }
}
