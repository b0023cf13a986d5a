import java.util.Arrays;

/** The boundaries of promise 19: which passes of a job can be, what its lines see, which jobs there are. */
public final class EdgesOfJobsTest {
    private static final int LEAST = Integer.MIN_VALUE;
    private static final int MOST = Integer.MAX_VALUE;

    public static void main(String[] args) {
        shaveIfOneCanBe();
        arcOfOneSlice();
        arcTurnedRound();
        arcDepths();
        arcMiddle();
        arcIfOneCanBe();
        waxIfThereIsOne();
        linesThatAreSo();
        asTheyAreThen();
        passesByThen();
        askedOnceALine();
        wraps();
        sixteenLines();
        fullOnTheWay();
        lostOnTheWay();
        whichJobs();
        refused();
        Due.close();
    }

    /** A bar whose tones 0, 1, 2 are 1000 times what is thick, 100 times that, and 1000 times the wax, together. */
    private static RingBars plain(int n, String job) {
        RingBars x = new RingBars();
        x.bar(n);
        Due.law(x, 0, "bend 0 thick;mass 0 1 when at=0;bend 1 thick;mass 1 10 when at=0;bend 2 wax;mass 2 1 when at=0;");
        Due.is("lines of " + job, true, Due.job(x, 0, job) >= 0);
        return x;
    }

    private static void rows(RingBars x, String then, int what, int... want) {
        for (int i = 0; i < want.length; i++) {
            Due.is("of(0, " + i + ", " + what + ") behind " + then, want[i], x.of(0, i, what));
        }
    }

    private static void done(String job, int passes, int... thick) {
        RingBars x = plain(thick.length, job);
        Due.is("passes of " + job, passes, x.job(0, 0));
        Due.is("passes kept behind " + job, passes, x.state(0, 1));
        rows(x, job, 0, thick);
    }

    private static void shaveIfOneCanBe() {
        Edge.says("Terms 2", "shave i d: a PASS, if one can be.");
        done("shave 0 1;", 1, 19, 20, 20);
        done("shave 2 9;", 1, 20, 20, 11);
        done("shave 3 1;", 0, 20, 20, 20);
        done("shave 15 1;", 0, 20, 20, 20);
        done("shave 15 1;", 1, 20, 20, 20, 20, 20, 20, 20, 20, 20, 20, 20, 20, 20, 20, 20, 19);
        // 20, 11, 2: not by 2, but by 1
        done("shave 1 9;shave 1 9;shave 1 2;shave 1 9;shave 1 1;shave 1 1;", 3, 20, 1, 20);
        done("", 0, 20, 20, 20);
    }

    private static void arcOfOneSlice() {
        Edge.says("Terms 2", "arc i j d: for SLICES i .. j (i not above j, else none)");
        done("arc 1 1 1;", 1, 20, 19, 20);
        done("arc 0 0 9;", 1, 11, 20, 20);
        done("arc 2 2 9;", 1, 20, 20, 11);
        done("arc 3 3 9;", 0, 20, 20, 20);
    }

    private static void arcTurnedRound() {
        done("arc 1 0 9;", 0, 20, 20, 20);
        done("arc 2 1 9;", 0, 20, 20, 20);
        done("arc 15 0 9;", 0, 20, 20, 20);
        done("arc 0 1 9;", 2, 11, 12, 20);
    }

    private static void arcDepths() {
        Edge.says("Terms 2", "a PASS of d less how far the SLICE is from the middle of both ((i + j) by 2), where that is above 0");
        done("arc 0 4 1;", 1, 20, 20, 19, 20, 20);
        done("arc 0 4 2;", 3, 20, 19, 18, 19, 20);
        done("arc 0 4 3;", 5, 19, 18, 17, 18, 19);
        done("arc 0 4 9;", 5, 13, 12, 11, 12, 13);
        int[] wide = new int[16];
        for (int i = 0; i < 16; i++) {
            wide[i] = 20 - Math.max(0, 9 - Math.abs(i - 7));
        }
        done("arc 0 15 9;", 16, wide);
        for (int i = 0; i < 16; i++) {
            wide[i] = 20 - Math.max(0, 7 - Math.abs(i - 7));
        }
        done("arc 0 15 7;", 13, wide);
    }

    private static void arcMiddle() {
        // the middle goes downwards: of 0 and 1 it is 0, of 1 and 2 it is 1, of 0 and 3 it is 1
        done("arc 0 1 2;", 2, 18, 19, 20, 20);
        done("arc 1 2 2;", 2, 20, 18, 19, 20);
        done("arc 0 3 1;", 1, 20, 19, 20, 20);
        done("arc 0 3 2;", 3, 19, 18, 19, 20);
        // slices that are not there count for the middle
        done("arc 0 15 9;", 3, 18, 17, 16);
        done("arc 0 15 7;", 2, 20, 19, 18);
        done("arc 2 15 9;", 1, 20, 20, 17);
        done("arc 1 3 4;", 2, 20, 17, 16);
        done("arc 3 15 9;", 0, 20, 20, 20);
    }

    private static void arcIfOneCanBe() {
        Edge.says("Terms 2", "and a PASS can be.");
        RingBars x = plain(5, "arc 0 4 5;");
        int[] thick = {3, 4, 5, 5, 4};
        for (int i = 0; i < 5; i++) {
            x.slice(0, i, thick[i], 5, 5);
        }
        // depths are 3, 4, 5, 4, 3
        Due.is("passes of an arc over what is thin", 2, x.job(0, 0));
        rows(x, "an arc over what is thin", 0, 3, 4, 5, 1, 1);
        Due.is("pass(0, 1, 0)", 3, x.pass(0, 1, 0));
        Due.is("pass(0, 1, 1)", 4, x.pass(0, 1, 1));
        Due.is("pass(0, 2, 0)", 4, x.pass(0, 2, 0));
        Due.is("pass(0, 2, 1)", 3, x.pass(0, 2, 1));
    }

    private static void waxIfThereIsOne() {
        Edge.says("Terms 2", "wax i w: WAX of SLICE i (if there is one) is w.");
        RingBars x = plain(4, "wax 0 99;wax 3 1;wax 4 50;wax 15 50;wax 1 0;");
        x.wax(0, 1, 7);
        x.wax(0, 2, 8);
        x.bar(5);
        Due.is("passes of wax", 0, x.job(0, 0));
        rows(x, "wax", 3, 99, 0, 8, 1);
        Due.is("wax of another bar", 0, x.of(1, 4, 3));
        Due.is("no passes", 0, x.state(0, 1));
    }

    private static void linesThatAreSo() {
        Edge.says("Terms 2", "line by line: if its B is so (or it has none)");
        RingBars x = plain(3, "shave 0 1 when 1=2;shave 1 1 when 1=1;shave 2 1;wax 0 5 when 2<1;wax 1 6 when 1<2;"
            + "arc 0 2 9 when not 1=1;arc 0 0 2 when not 1=2;");
        Due.is("passes", 3, x.job(0, 0));
        rows(x, "lines that are so", 0, 18, 19, 19);
        rows(x, "lines that are so", 3, 0, 6, 0);
    }

    private static void asTheyAreThen() {
        Edge.says("Terms 2", "low, high, top: TONES 0, 1, 2 as they are when the line is come to");
        RingBars x = plain(3, "shave 0 1 when low=60000;shave 0 1 when low=60000;shave 0 1 when low=59000;"
            + "shave 1 2 when high=5800;wax 1 9 when top=0;shave 2 3 when top=9000;shave 2 1 when low=53000 and high=5300;");
        Due.is("passes", 5, x.job(0, 0));
        rows(x, "lines that see", 0, 18, 18, 16);
        // by the law in force
        RingBars y = plain(3, "shave 0 1 when low=0 and high=0 and top=0;");
        y.force(1);
        Due.is("by law 1", 1, y.job(0, 0));
        y.force(0);
        Due.is("by law 0", 0, y.job(0, 0));
        // of the bar on which it is done
        RingBars z = plain(3, "shave 0 1 when low>60000;");
        z.bar(4);
        Due.is("on bar 0", 0, z.job(0, 0));
        Due.is("on bar 1", 1, z.job(0, 1));
        Due.is("of bar 0", 20, z.of(0, 0, 0));
        Due.is("of bar 1", 19, z.of(1, 0, 0));
    }

    private static void passesByThen() {
        Edge.says("Terms 2", "passes: PASSES of the BAR by then.");
        RingBars x = plain(3, "shave 0 1 when passes=2;shave 0 1 when passes=2;shave 1 1 when passes=3;shave 2 1 when passes>4;");
        Due.is("without passes", 0, x.job(0, 0));
        x.shave(0, 2, 1);
        Due.is("behind one pass", 0, x.job(0, 0));
        x.shave(0, 2, 1);
        Due.is("behind two passes", 2, x.job(0, 0));
        rows(x, "two passes and two", 0, 19, 19, 18);
        x.bar(3);
        Due.is("on another bar", 0, x.job(0, 1));
        Due.is("behind four passes", 0, x.job(0, 0));
        x.shave(0, 2, 1);
        Due.is("behind five passes", 1, x.job(0, 0));
    }

    private static void askedOnceALine() {
        RingBars x = plain(5, "arc 0 4 3 when passes=0 and low/2=50000;");
        Due.is("all of an arc", 5, x.job(0, 0));
        Due.is("none of it again", 0, x.job(0, 0));
    }

    private static void wraps() {
        RingBars x = plain(16, "shave 0 1 when low+low<0;shave 1 1 when low*2/99999=0-10950;shave 2 1 when low*low/10000=0-49582;"
            + "shave 3 1 when 0-low/99999=0-16000;shave 4 1 when low*3>0;");
        Due.law(x, 0, "bend 0 99999;mass 0 1 when at=0;");
        // 1599984000 twice wraps to -1094999296, its square to -495828992, three times to 504984704
        Due.is("passes of lines that wrap", 5, x.job(0, 0));
    }

    private static void sixteenLines() {
        StringBuilder job = new StringBuilder();
        for (int i = 0; i < 15; i++) {
            job.append("wax ").append(i).append(' ').append(i + 50).append(';');
        }
        for (int k = 0; k < 4; k++) {
            RingBars x = plain(16, "");
            Due.is("lines", 16, Due.job(x, k, job + "arc 13 15 2 when passes=0;"));
            Due.is("passes", 3, x.job(k, 0));
            for (int i = 0; i < 16; i++) {
                Due.is("wax of " + i, i < 15 ? i + 50 : 0, x.of(0, i, 3));
                Due.is("thick of " + i, i < 13 ? 20 : i == 14 ? 18 : 19, x.of(0, i, 0));
            }
            Due.is("lines", 16, Due.job(x, k, job + "shave 15 9;"));
            Due.is("passes", 1, x.job(k, 0));
            Due.is("thick of 15", 10, x.of(0, 15, 0));
            Due.is("lines", 16, Due.job(x, k, job + "wax 15 99;"));
            x.job(k, 0);
            Due.is("wax of 15", 99, x.of(0, 15, 3));
            Due.is("lines", 16, Due.job(x, k, job + "wax 15 77 when 1=2;"));
            x.job(k, 0);
            Due.is("wax of 15, the last line not being so", 99, x.of(0, 15, 3));
            Due.is("a shorter job", 1, Due.job(x, k, "wax 0 1;"));
            x.wax(0, 15, 3);
            x.job(k, 0);
            Due.is("no line is left behind it", 3, x.of(0, 15, 3));
        }
    }

    /** Behind 200 passes a job goes on, but has no more of them. */
    private static void fullOnTheWay() {
        RingBars x = plain(16, "arc 0 15 8;");
        for (int i = 0; i < 16; i++) {
            x.slice(0, i, 99, 5, 5);
        }
        Due.job(x, 1, "shave 0 1;shave 15 2;wax 3 33;");
        for (int n = 1; n <= 12; n++) {
            Due.is("arc " + n, 15, x.job(0, 0));
        }
        Due.is("passes kept", 180, x.state(0, 1));
        Due.is("two passes", 2, x.job(1, 0));
        Due.is("an arc whose middle is too thin", 14, x.job(0, 0));
        Due.is("the arc that is cut", 4, x.job(0, 0));
        Due.is("passes kept", 200, x.state(0, 1));
        Due.is("pass(0, 200, 0)", 3, x.pass(0, 200, 0));
        Due.is("pass(0, 200, 1)", 4, x.pass(0, 200, 1));
        int[] thick = new int[16];
        Arrays.setAll(thick, i -> x.of(0, i, 0));
        Due.is("an arc on a full bar", 0, x.job(0, 0));
        x.wax(0, 3, 0);
        Due.is("shaves on a full bar", 0, x.job(1, 0));
        Due.is("its wax", 33, x.of(0, 3, 3));
        rows(x, "jobs on a full bar", 0, thick);
        RingBars y = plain(3, "shave 0 1;shave 1 1;shave 2 1;wax 0 9;");
        for (int i = 0; i < 3; i++) {
            y.slice(0, i, 99, 5, 5);
        }
        for (int n = 0; n < 66; n++) {
            y.job(0, 0);
        }
        Due.is("the 199th pass", 199, y.shave(0, 2, 1));
        Due.is("one of three", 1, y.job(0, 0));
        Due.is("none of three", 0, y.job(0, 0));
        rows(y, "199 passes and a job", 0, 99 - 67, 99 - 66, 99 - 67);
    }

    private static void lostOnTheWay() {
        RingBars x = plain(3, "shave 0 1;wax 0 5;shave 0 1;arc 0 2 3;");
        x.slack(0);
        x.goal(0, 0, 56000);
        // passes are 1, 1 and 2, 3, 2
        Due.is("passes", 5, x.job(0, 0));
        Due.is("LOST BY a pass within an arc", 4, x.state(0, 4));
    }

    private static void whichJobs() {
        Edge.says("Promise 19", "A JOB is done on a BAR: how many PASSES; NONE if one can't be.");
        RingBars x = plain(3, "shave 0 1;");
        Due.job(x, 3, "shave 0 1;shave 1 1;");
        Due.is("job(0, 0)", 1, x.job(0, 0));
        Due.is("job(1, 0), an empty one", 0, x.job(1, 0));
        Due.is("job(2, 0), an empty one", 0, x.job(2, 0));
        Due.is("job(3, 0)", 2, x.job(3, 0));
        for (int b = 1; b < 10; b++) {
            x.bar(3);
        }
        Due.is("job(3, 9)", 2, x.job(3, 9));
        Due.is("job(3, 10)", -1, x.job(3, 10));
    }

    private static void refused() {
        int[][] none = {{4, 0}, {-1, 0}, {MOST, 0}, {LEAST, 0}, {0, 2}, {0, -1}, {0, MOST}, {0, LEAST}};
        for (int[] n : none) {
            Edge.refused("job(" + n[0] + ", " + n[1] + ")", -1, y -> y.job(n[0], n[1]));
        }
    }
}
