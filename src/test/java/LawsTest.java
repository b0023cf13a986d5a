/** Promises 10 to 12: the law in force, what laws tell, tones. */
public final class LawsTest {
    public static void main(String[] args) {
        units();
        sums();
        conditions();
        firstLine();
        held();
        refusals();
        tones();
        Due.close();
    }

    private static RingBars told(int n, String law) {
        RingBars x = new RingBars();
        x.bar(n);
        Due.is(law, true, Due.law(x, 0, law) >= 0);
        return x;
    }

    private static void sway(int want, int n, int i, String sum) {
        RingBars x = told(n, "sway 0 " + sum + ";");
        x.slice(0, i, 31, 7, 3);
        x.wax(0, i, 44);
        Due.is("sway of slice " + i + " by " + sum, want, x.tells(0, 2, 0, 0, i));
    }

    private static void units() {
        int[] mid = {4, 2, 0, 2, 4};
        int[] end = {0, 1, 2, 1, 0};
        for (int i = 0; i < 5; i++) {
            sway(mid[i], 5, i, "mid");
            sway(end[i], 5, i, "end");
        }
        int[] evenMid = {5, 3, 1, 1, 3, 5};
        int[] evenEnd = {0, 1, 2, 2, 1, 0};
        for (int i = 0; i < 6; i++) {
            sway(evenMid[i], 6, i, "mid");
            sway(evenEnd[i], 6, i, "end");
        }
        sway(3, 7, 3, "at");
        sway(7, 7, 3, "size");
        sway(31, 7, 3, "thick");
        sway(7, 7, 3, "grain");
        sway(3, 7, 3, "heavy");
        sway(44, 7, 3, "wax");
        sway(0, 7, 3, "heat");
        sway(0, 7, 3, "wet");
    }

    private static void sums() {
        sway(7, 4, 1, "1+2*3");
        sway(1, 4, 1, "10-4-5");
        sway(11, 4, 1, "10-4+5");
        sway(2, 4, 1, "100/7/7");
        sway(6, 4, 1, "7/2*2");
        sway(31, 4, 1, "0+31");
        sway(-2, 4, 1, "3-10/2");
        // a part goes towards 0
        sway(-1, 4, 1, "0-7/4");
        sway(0, 4, 1, "at-at*at");
        RingBars x = told(4, "sway 0 0*1-7*1;sway 1 at*2-5 when at=0;sway 2 0-0;");
        Due.is("0*1-7*1", -7, x.tells(0, 2, 0, 0, 0));
        // (0 - 7) can't be written in one factor, so a wrapped one is used: 65536*32768 is -2147483648
        sway(-9999, 4, 1, "65536*32768");
        sway(0, 4, 1, "65536*65536");
        sway(-1, 4, 1, "65536*32768/99999/21474");
        sway(-21, 4, 1, "65536*32768/99999/1000");
        sway(-9999, 4, 1, "65536*32767+65535+1");
    }

    private static void when(boolean want, String condition) {
        RingBars x = told(4, "sway 0 1 when " + condition + ";sway 0 2;");
        Due.is(condition, want ? 1 : 2, x.tells(0, 2, 0, 0, 1));
    }

    private static void conditions() {
        when(true, "1<2");
        when(false, "2<2");
        when(false, "3<2");
        when(true, "2=2");
        when(false, "2=3");
        when(true, "3>2");
        when(false, "2>2");
        when(true, "0-1<0");
        when(true, "65536*32768<0");
        when(true, "1=2 or 1=1");
        when(false, "1=2 or 1=3");
        when(false, "1=1 and 1=2");
        // and binds more than or, not more than and
        when(true, "1=1 or 1=1 and 1=2");
        when(false, "(1=1 or 1=1) and 1=2");
        when(true, "1=2 and 1=2 or 1=1");
        when(false, "1=2 and (1=2 or 1=1)");
        when(false, "not 1=1 and 1=2");
        when(true, "not (1=1 and 1=2)");
        when(false, "not 1=2 and 1=2");
        when(true, "not not 1=1");
        when(true, "not 1=1 or 1=1");
        when(false, "not (1=1 or 1=1)");
        when(true, "at=1");
        when(true, "thick>grain*3 and size=4");
        when(false, "heat>0 or wet>0");
        when(true, "((((((((1=1))))))))");
        when(true, "1=2 or 1=3 or 1=4 or 1=1");
        when(false, "1=1 and 1=1 and 1=1 and 1=2");
    }

    private static void firstLine() {
        RingBars x = told(4, "bend 1 9;bend 0 5 when at=9;bend 0 6 when at<2;bend 0 7;bend 0 8;mass 0 3;sway 2 4;");
        Due.is("the line whose condition is so", 6, x.tells(0, 0, 0, 0, 1));
        Due.is("the next one", 7, x.tells(0, 0, 0, 0, 2));
        Due.is("of another tone", 9, x.tells(0, 0, 1, 0, 1));
        Due.is("of a tone without one", 0, x.tells(0, 0, 2, 0, 1));
        Due.is("mass", 3, x.tells(0, 1, 0, 0, 1));
        Due.is("sway of tone 2", 4, x.tells(0, 2, 2, 0, 1));
        Due.is("sway of tone 0", 0, x.tells(0, 2, 0, 0, 1));
        x = told(4, "bend 0 5 when at=9;");
        Due.is("no line is so", 0, x.tells(0, 0, 0, 0, 1));
    }

    private static void held() {
        RingBars x = told(4, "bend 0 99999+1;mass 0 99999*2;sway 0 9999+1;bend 1 0-1;mass 1 0-1;sway 1 0-9999-1;"
            + "bend 2 99999;mass 2 0;sway 2 0-9999;");
        int[][] want = {{99999, 99999, 9999}, {0, 0, -9999}, {99999, 0, -9999}};
        for (int k = 0; k < 3; k++) {
            for (int word = 0; word < 3; word++) {
                Due.is("word " + word + " of tone " + k, want[k][word], x.tells(0, word, k, 0, 3));
            }
        }
    }

    private static void refusals() {
        RingBars x = told(4, "bend 0 1;");
        int[][] wrong = {{2, 0, 0, 0, 0}, {-1, 0, 0, 0, 0}, {0, 3, 0, 0, 0}, {0, -1, 0, 0, 0}, {0, 0, 3, 0, 0},
            {0, 0, -1, 0, 0}, {0, 0, 0, 1, 0}, {0, 0, 0, -1, 0}, {0, 0, 0, 0, 4}, {0, 0, 0, 0, -1}};
        for (int[] w : wrong) {
            Due.is("tells" + java.util.Arrays.toString(w), -100000, x.tells(w[0], w[1], w[2], w[3], w[4]));
        }
        Due.is("tone(1, 0)", -1, x.tone(1, 0));
        Due.is("tone(-1, 0)", -1, x.tone(-1, 0));
        Due.is("tone(0, 3)", -1, x.tone(0, 3));
        Due.is("tone(0, -1)", -1, x.tone(0, -1));
        Due.is("force(2)", -1, x.force(2));
        Due.is("force(-1)", -1, x.force(-1));
        Due.is("force is 0 yet", 0, x.look(5));
    }

    private static void tones() {
        RingBars x = told(3, "bend 0 thick;mass 0 7;mass 1 5;bend 2 5;");
        // 60 by 21, 0 by 15, 15 by nothing
        Due.is("tone(0, 0)", 2857, x.tone(0, 0));
        Due.is("tone(0, 1)", 0, x.tone(0, 1));
        Due.is("tone(0, 2)", 0, x.tone(0, 2));
        Due.is("law 1", 2, Due.law(x, 1, "bend 0 99999;mass 0 1 when at=0;"));
        Due.is("tone by the law in force", 2857, x.tone(0, 0));
        Due.is("what law 1 tells", 99999, x.tells(1, 0, 0, 0, 0));
        Due.is("force(1)", 0, x.force(1));
        Due.is("look(5)", 1, x.look(5));
        Due.is("force(1) again", 1, x.force(1));
        Due.is("tone by law 1", 299997000, x.tone(0, 0));
        x.bar(16);
        Due.is("the greatest tone", 1599984000, x.tone(1, 0));
        x.force(0);
        x.slice(0, 1, 1, 5, 5);
        Due.is("tone with a thin slice", 1952, x.tone(0, 0));
    }
}
