/** Promises 30 to 34: notes, blanks, sets, where a bar may go, enough wax. */
public final class SetsTest {
    public static void main(String[] args) {
        notesAndBlanks();
        sets();
        eights();
        down();
        enough();
        Due.close();
    }

    private static void notesAndBlanks() {
        RingBars x = new RingBars();
        int[][] wrongNotes = {{0, 5}, {1000000, 5}, {-1, 5}, {5, 0}, {5, 100}};
        for (int[] w : wrongNotes) {
            Due.is("note" + java.util.Arrays.toString(w), -1, x.note(w[0], w[1]));
        }
        int[][] wrongBlanks = {{0, 5}, {100, 5}, {5, -1}, {5, 100}};
        for (int[] w : wrongBlanks) {
            Due.is("blank" + java.util.Arrays.toString(w), -1, x.blank(w[0], w[1]));
        }
        for (int n = 0; n < 8; n++) {
            Due.is("note", n, n == 0 ? x.note(999999, 99) : x.note(1, 1));
            Due.is("blank", n, n == 0 ? x.blank(99, 99) : x.blank(1, 0));
        }
        Due.is("the ninth note", -1, x.note(1, 1));
        Due.is("the ninth blank", -1, x.blank(1, 1));
        Due.is("look(2)", 8, x.look(2));
        Due.is("look(3)", 8, x.look(3));
    }

    private static void best(RingBars x, int spread, int waste, int... blanks) {
        Due.is("set(" + spread + ", 0)", waste, x.set(spread, 0));
        for (int i = 0; i < blanks.length; i++) {
            Due.is("set(" + spread + ", " + (1 + i) + ")", blanks[i], x.set(spread, 1 + i));
        }
        Due.is("set behind the last note", -1, x.set(spread, 1 + blanks.length));
    }

    private static void sets() {
        RingBars x = new RingBars();
        best(x, 0, 0);
        x.blank(30, 5);
        best(x, 0, 0);
        x.note(10, 20);
        best(x, 0, 10, 0);
        x.note(10, 20);
        best(x, 99, -1, -1, -1);
        x.blank(25, 50);
        best(x, 45, 15, 0, 1);
        best(x, 44, -1, -1, -1);
        x.blank(20, 60);
        best(x, 45, 5, 1, 2);
        x.blank(20, 61);
        // of several with the least waste the first
        best(x, 1, 0, 2, 3);
        best(x, 0, -1, -1, -1);
        x.note(10, 30);
        best(x, 99, 0, 2, 3, 0);
        best(x, 55, 5, 1, 2, 0);
        best(x, 54, -1, -1, -1, -1);
        x.blank(19, 5);
        best(x, 54, -1, -1, -1, -1);
        Due.is("set(-1, 0)", -1, x.set(-1, 0));
        Due.is("set(100, 0)", -1, x.set(100, 0));
        Due.is("set(99, -1)", -1, x.set(99, -1));
        Due.is("set(99, 2147483647)", -1, x.set(99, Integer.MAX_VALUE));
        // a note that is too long for the first blanks
        RingBars y = new RingBars();
        y.note(1, 10);
        y.note(1, 20);
        y.blank(20, 0);
        y.blank(15, 0);
        best(y, 0, 5, 1, 0);
        // the later set with less waste
        RingBars z = new RingBars();
        z.note(1, 10);
        z.blank(12, 0);
        z.blank(11, 0);
        z.blank(11, 0);
        best(z, 0, 1, 1);
    }

    private static void eights() {
        RingBars x = new RingBars();
        for (int n = 0; n < 8; n++) {
            x.note(5, 10 + n);
            x.blank(17 - n, 10 * n);
        }
        best(x, 70, 0, 7, 6, 5, 4, 3, 2, 1, 0);
        best(x, 69, -1, -1, -1, -1, -1, -1, -1, -1, -1);
        RingBars y = new RingBars();
        for (int n = 0; n < 8; n++) {
            y.note(5, 10);
            y.blank(99, 50);
        }
        best(y, 0, 8 * 89, 0, 1, 2, 3, 4, 5, 6, 7);
    }

    private static void down() {
        RingBars x = new RingBars();
        x.bar(3);
        Due.law(x, 0, "bend 0 thick;mass 0 1;");
        Due.is("down without notes", -1, x.down(0));
        x.note(20011, 5);
        Due.is("down to a note that is above", -1, x.down(0));
        x.note(3, 5);
        Due.is("down", 1, x.down(0));
        x.note(20010, 5);
        Due.is("down to a note above by slack", 2, x.down(0));
        x.note(20010, 6);
        Due.is("down to the first of several", 2, x.down(0));
        x.note(20009, 6);
        Due.is("down to the greatest", 2, x.down(0));
        x.slack(9);
        Due.is("down by less slack", 4, x.down(0));
        x.shave(0, 0, 9);
        Due.is("down of a bar that was shaved", 1, x.down(0));
        Due.is("down(1)", -1, x.down(1));
        Due.is("down(-1)", -1, x.down(-1));
    }

    private static void enough() {
        RingBars x = new RingBars();
        x.bar(3);
        Due.law(x, 0, "bend 0 thick*10;mass 0 10+wax;bend 1 thick*10;mass 1 10 when at=1 and wax=40;mass 1 1;");
        Due.is("enough without a goal", -1, x.enough(0, 0, 0));
        x.goal(0, 0, 10000);
        // 600 by (30 + w) is not above 10010: w is 30
        Due.is("enough", 30, x.enough(0, 0, 0));
        x.slack(0);
        Due.is("enough with no slack", 30, x.enough(0, 0, 0));
        x.goal(0, 0, 9999);
        Due.is("enough of one more", 31, x.enough(0, 0, 0));
        x.slack(1);
        Due.is("enough by slack", 30, x.enough(0, 0, 0));
        x.slack(0);
        Due.is("no wax is put", 0, x.of(0, 0, 3));
        x.wax(0, 1, 20);
        Due.is("enough with wax elsewhere", 11, x.enough(0, 0, 0));
        Due.is("enough from what there is on", 31, x.enough(0, 1, 0));
        x.wax(0, 1, 50);
        Due.is("enough from more than is due", 50, x.enough(0, 1, 0));
        Due.is("enough of none", 0, x.enough(0, 2, 0));
        x.wax(0, 1, 0);
        x.goal(0, 0, 4651);
        Due.is("enough of all", 99, x.enough(0, 0, 0));
        x.goal(0, 0, 4650);
        Due.is("not enough", -1, x.enough(0, 0, 0));
        // 200 by 12 with 40 on slice 1 alone
        x.goal(0, 1, 50000);
        Due.is("enough of just so much", 40, x.enough(0, 1, 1));
        x.wax(0, 1, 41);
        Due.is("enough of just so much, past it", -1, x.enough(0, 1, 1));
        int[][] wrong = {{0, 3, 0}, {0, -1, 0}, {0, 0, 3}, {0, 0, -1}, {1, 0, 0}, {-1, 0, 0}, {0, 0, 2}};
        for (int[] w : wrong) {
            Due.is("enough" + java.util.Arrays.toString(w), -1, x.enough(w[0], w[1], w[2]));
        }
    }
}
