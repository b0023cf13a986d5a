/** Promise 19: jobs done on bars. */
public final class JobsTest {
    public static void main(String[] args) {
        shaves();
        arcs();
        wax();
        seen();
        lostOnTheWay();
        full();
        refusals();
        Due.close();
    }

    private static RingBars plain(int n, String job) {
        RingBars x = new RingBars();
        x.bar(n);
        Due.law(x, 0, "bend 0 thick;mass 0 1;bend 1 thick*10;mass 1 1;bend 2 wax;mass 2 1;");
        Due.is(job, true, Due.job(x, 0, job) >= 0);
        return x;
    }

    private static void thick(RingBars x, String job, int... want) {
        for (int i = 0; i < want.length; i++) {
            Due.is("thick of slice " + i + " behind " + job, want[i], x.of(0, i, 0));
        }
    }

    private static void shaves() {
        String job = "shave 1 9;shave 1 9;shave 1 2;shave 1 1;shave 4 1;shave 15 1;shave 3 4;";
        RingBars x = plain(4, job);
        Due.is("job", 4, x.job(0, 0));
        thick(x, job, 20, 1, 20, 16);
        Due.is("pass(0, 3, 1)", 1, x.pass(0, 3, 1));
        Due.is("pass(0, 4, 0)", 3, x.pass(0, 4, 0));
        Due.is("job again", 1, x.job(0, 0));
        thick(x, job, 20, 1, 20, 12);
        Due.is("state(0, 1)", 5, x.state(0, 1));
    }

    private static void arc(String job, int passes, int... want) {
        RingBars x = plain(want.length, job);
        Due.is("job " + job, passes, x.job(0, 0));
        thick(x, job, want);
    }

    private static void arcs() {
        arc("arc 0 4 3;", 5, 19, 18, 17, 18, 19);
        arc("arc 0 4 1;", 1, 20, 20, 19, 20, 20);
        arc("arc 0 4 2;", 3, 20, 19, 18, 19, 20);
        // the middle of 1 and 4 is 2
        arc("arc 1 4 3;", 4, 20, 18, 17, 18, 19);
        arc("arc 1 4 9;", 4, 20, 12, 11, 12, 13);
        arc("arc 3 3 9;", 1, 20, 20, 20, 11, 20);
        arc("arc 3 2 9;", 0, 20, 20, 20, 20, 20);
        // slices that are not there count for the middle, but have no pass
        arc("arc 2 9 4;", 2, 20, 20, 19, 18);
        arc("arc 9 15 4;", 0, 20, 20, 20, 20);
        RingBars x = plain(5, "arc 0 4 5;");
        x.slice(0, 2, 5, 5, 5);
        x.slice(0, 3, 5, 5, 5);
        Due.is("arc over a thin slice", 4, x.job(0, 0));
        thick(x, "an arc over a thin slice", 17, 16, 5, 1, 17);
        Due.is("pass(0, 1, 0)", 0, x.pass(0, 1, 0));
        Due.is("pass(0, 3, 0)", 3, x.pass(0, 3, 0));
        Due.is("pass(0, 3, 1)", 4, x.pass(0, 3, 1));
    }

    private static void wax() {
        RingBars x = plain(4, "wax 3 99;wax 4 1;wax 0 7;wax 0 0 when top<1000;");
        x.wax(0, 0, 5);
        Due.is("a job of wax", 0, x.job(0, 0));
        Due.is("of(0, 3, 3)", 99, x.of(0, 3, 3));
        Due.is("of(0, 0, 3)", 7, x.of(0, 0, 3));
        Due.is("slices may be told yet", true, x.slice(0, 0, 9, 9, 9));
    }

    private static void seen() {
        // low is 20000 less 250 a step: each line sees what the lines before it left
        RingBars x = plain(4, "shave 0 1 when low=20000;shave 0 1 when low=19750;shave 0 1 when low=19750;"
            + "shave 1 1 when high/10=19500;shave 2 1 when passes=3;shave 2 1 when passes=3;"
            + "wax 0 40;shave 3 1 when top=10000;");
        Due.is("job", 5, x.job(0, 0));
        thick(x, "a job that sees", 18, 19, 19, 19);
        RingBars y = plain(4, "shave 0 1 when passes=2 or not (low>0 and high>0);shave 1 1 when passes<2;");
        Due.is("first", 1, y.job(0, 0));
        Due.is("second", 1, y.job(0, 0));
        Due.is("third", 1, y.job(0, 0));
        Due.is("fourth", 0, y.job(0, 0));
        thick(y, "four jobs", 19, 18, 20, 20);
    }

    private static void lostOnTheWay() {
        RingBars x = plain(4, "shave 0 1;shave 0 1;shave 0 1;shave 0 1;");
        x.goal(0, 0, 19510);
        Due.is("job", 4, x.job(0, 0));
        Due.is("LOST BY", 3, x.state(0, 4));
    }

    private static void full() {
        RingBars x = plain(16, "arc 0 15 9;arc 0 15 9;arc 0 15 9;");
        for (int i = 0; i < 16; i++) {
            x.slice(0, i, 99, 5, 5);
        }
        int kept = 0;
        for (int n = 0; n < 6; n++) {
            int done = x.job(0, 0);
            kept += done;
            Due.is("passes kept", kept, x.state(0, 1));
        }
        Due.is("all that can be kept", 200, kept);
        Due.is("a job on a full bar", 0, x.job(0, 0));
    }

    private static void refusals() {
        RingBars x = plain(4, "shave 0 1;");
        int[][] wrong = {{4, 0}, {-1, 0}, {0, 1}, {0, -1}};
        for (int[] w : wrong) {
            Due.is("job" + java.util.Arrays.toString(w), -1, x.job(w[0], w[1]));
        }
        Due.is("an empty job", 0, x.job(3, 0));
        Due.is("nothing is done", 0, x.state(0, 1));
    }
}
