/** The boundaries of promises 30 to 34: notes, blanks, sets, where a bar may go, enough wax. */
public final class EdgesOfSetsTest {
    private static final int LEAST = Integer.MIN_VALUE;
    private static final int MOST = Integer.MAX_VALUE;

    public static void main(String[] args) {
        notes();
        eightNotes();
        blanks();
        eightBlanks();
        asLongOrLonger();
        aBlankOfItsOwn();
        withinSpread();
        spreads();
        leastWaste();
        firstOfSeveral();
        withoutNotes();
        noSet();
        setRefused();
        downNotAbove();
        downOfSeveral();
        downOfEight();
        downRefused();
        enoughNotAbove();
        enoughFromWhatThereIs();
        enoughAtMost();
        enoughWithoutAGoal();
        enoughRefused();
        Due.close();
    }

    private static RingBars lawed(int n, String law) {
        RingBars x = new RingBars();
        x.bar(n);
        Due.is("lines of " + law, true, Due.law(x, 0, law) >= 0);
        return x;
    }

    /** Notes and blanks told as rows: lengths of notes, then of each blank the length and the ring. */
    private static RingBars chosen(int[] notes, int[][] blanks) {
        RingBars x = new RingBars();
        for (int n = 0; n < notes.length; n++) {
            Due.is("note " + n, n, x.note(100, notes[n]));
        }
        for (int b = 0; b < blanks.length; b++) {
            Due.is("blank " + b, b, x.blank(blanks[b][0], blanks[b][1]));
        }
        return x;
    }

    private static void best(RingBars x, int spread, int waste, int... blanks) {
        Due.is("set(" + spread + ", 0)", waste, x.set(spread, 0));
        for (int i = 0; i < blanks.length; i++) {
            Due.is("set(" + spread + ", " + (1 + i) + ")", blanks[i], x.set(spread, 1 + i));
        }
        Due.is("set behind the last note", -1, x.set(spread, 1 + blanks.length));
    }

    private static void none(RingBars x, int spread, int notes) {
        for (int what = 0; what <= notes + 1; what++) {
            Due.is("set(" + spread + ", " + what + ") of none", -1, x.set(spread, what));
        }
    }

    private static void notes() {
        Edge.says("Terms 5", "NOTES 0 .. 7 as they come: a GOAL 1 .. 999999, a LENGTH 1 .. 99.");
        RingBars x = new RingBars();
        int[][] can = {{1, 1}, {999999, 1}, {1, 99}, {999999, 99}, {2, 2}, {999998, 98}};
        for (int n = 0; n < can.length; n++) {
            Due.is("note(" + can[n][0] + ", " + can[n][1] + ")", n, x.note(can[n][0], can[n][1]));
        }
        int[][] none = {{0, 5}, {1000000, 5}, {-1, 5}, {MOST, 5}, {LEAST, 5}, {5, 0}, {5, 100}, {5, -1}, {5, MOST}, {5, LEAST}};
        for (int[] n : none) {
            Edge.refused("note(" + n[0] + ", " + n[1] + ")", -1, y -> y.note(n[0], n[1]));
        }
    }

    private static void eightNotes() {
        Edge.says("Promise 30", "A NOTE: its number; NONE if one can't be, or there are eight.");
        RingBars x = new RingBars();
        for (int n = 0; n < 8; n++) {
            Due.is("note " + n, n, x.note(n + 1, n + 1));
            Due.is("a note that can't be, between", -1, x.note(0, 1));
        }
        Due.is("the ninth note", -1, x.note(1, 1));
        Due.is("look(2)", 8, x.look(2));
        Due.is("look(3)", 0, x.look(3));
        Edge.refused("the ninth note", -1, y -> {
            for (int n = 2; n < 8; n++) {
                Due.is("note " + n, n, y.note(900 + n, 1));
            }
        }, y -> y.note(13000, 1));
    }

    private static void blanks() {
        Edge.says("Terms 5", "BLANKS 0 .. 7 as they come: a LENGTH 1 .. 99, a RING 0 .. 99.");
        RingBars x = new RingBars();
        int[][] can = {{1, 0}, {99, 0}, {1, 99}, {99, 99}, {2, 1}, {98, 98}};
        for (int n = 0; n < can.length; n++) {
            Due.is("blank(" + can[n][0] + ", " + can[n][1] + ")", n, x.blank(can[n][0], can[n][1]));
        }
        int[][] none = {{0, 5}, {100, 5}, {-1, 5}, {MOST, 5}, {LEAST, 5}, {5, -1}, {5, 100}, {5, MOST}, {5, LEAST}};
        for (int[] n : none) {
            Edge.refused("blank(" + n[0] + ", " + n[1] + ")", -1, y -> y.blank(n[0], n[1]));
        }
    }

    private static void eightBlanks() {
        Edge.says("Promise 31", "A BLANK: its number; NONE if one can't be, or there are eight.");
        RingBars x = new RingBars();
        for (int n = 0; n < 8; n++) {
            Due.is("blank " + n, n, x.blank(n + 1, n));
            Due.is("a blank that can't be, between", -1, x.blank(0, 1));
        }
        Due.is("the ninth blank", -1, x.blank(1, 1));
        Due.is("look(2)", 0, x.look(2));
        Due.is("look(3)", 8, x.look(3));
        x.note(5, 8);
        best(x, 0, 0, 7);
        Edge.refused("the ninth blank", -1, y -> {
            for (int n = 3; n < 8; n++) {
                Due.is("blank " + n, n, y.blank(n, 99));
            }
        }, y -> y.blank(10, 5));
    }

    private static void asLongOrLonger() {
        Edge.says("Terms 5", "A SET gives each NOTE a BLANK of its own, as long or longer");
        best(chosen(new int[] {20}, new int[][] {{20, 0}}), 0, 0, 0);
        best(chosen(new int[] {20}, new int[][] {{21, 0}}), 0, 1, 0);
        none(chosen(new int[] {20}, new int[][] {{19, 0}}), 99, 1);
        best(chosen(new int[] {1}, new int[][] {{99, 0}}), 0, 98, 0);
        best(chosen(new int[] {99}, new int[][] {{99, 99}}), 0, 0, 0);
        none(chosen(new int[] {99}, new int[][] {{98, 99}}), 99, 1);
        best(chosen(new int[] {20}, new int[][] {{19, 0}, {20, 0}}), 0, 0, 1);
    }

    private static void aBlankOfItsOwn() {
        none(chosen(new int[] {1, 1}, new int[][] {{99, 0}}), 99, 2);
        best(chosen(new int[] {1, 1}, new int[][] {{99, 0}, {99, 0}}), 0, 196, 0, 1);
        // the second note needs the blank that the first would waste least with
        best(chosen(new int[] {10, 12}, new int[][] {{12, 0}, {11, 0}}), 0, 1, 1, 0);
        none(chosen(new int[] {10, 12}, new int[][] {{11, 0}, {11, 0}}), 99, 2);
        int[] notes = new int[8];
        int[][] blanks = new int[8][2];
        for (int n = 0; n < 8; n++) {
            notes[n] = 99 - n;
            blanks[n] = new int[] {92 + n, 9};
        }
        best(chosen(notes, blanks), 0, 0, 7, 6, 5, 4, 3, 2, 1, 0);
        blanks[7][0] = 98;
        none(chosen(notes, blanks), 99, 8);
        blanks[7][0] = 99;
        notes[7] = 1;
        best(chosen(notes, blanks), 0, 91, 7, 6, 5, 4, 3, 2, 1, 0);
        none(chosen(new int[] {1, 1, 1, 1, 1, 1, 1, 1}, new int[][] {{1, 0}, {1, 0}, {1, 0}, {1, 0}, {1, 0}, {1, 0}, {1, 0}}), 99, 8);
    }

    private static void withinSpread() {
        Edge.says("Terms 5", "so that all RINGS are within SPREAD (0 .. 99) of one another");
        RingBars x = chosen(new int[] {5, 5}, new int[][] {{5, 40}, {5, 45}});
        none(x, 4, 2);
        best(x, 5, 0, 0, 1);
        best(x, 6, 0, 0, 1);
        // of three, the two that are farthest count, whichever come first
        int[][] orders = {{0, 5, 10}, {0, 10, 5}, {5, 0, 10}, {5, 10, 0}, {10, 0, 5}, {10, 5, 0}};
        for (int[] o : orders) {
            RingBars y = chosen(new int[] {5, 5, 5}, new int[][] {{5, o[0]}, {5, o[1]}, {5, o[2]}});
            none(y, 9, 3);
            best(y, 10, 0, 0, 1, 2);
        }
        // blanks that are not given to a note do not count
        RingBars z = chosen(new int[] {5, 5}, new int[][] {{5, 0}, {9, 50}, {8, 99}, {7, 49}});
        best(z, 1, 6, 1, 3);
        best(z, 0, -1, -1, -1);
        best(z, 49, 2, 0, 3);
    }

    private static void spreads() {
        RingBars x = chosen(new int[] {5, 5}, new int[][] {{5, 0}, {5, 99}});
        best(x, 99, 0, 0, 1);
        none(x, 98, 2);
        none(x, 0, 2);
        RingBars y = chosen(new int[] {5, 5}, new int[][] {{5, 99}, {5, 99}});
        best(y, 0, 0, 0, 1);
        for (int spread : new int[] {-1, 100, MOST, LEAST}) {
            for (int what = 0; what < 3; what++) {
                Due.is("set(" + spread + ", " + what + ")", -1, y.set(spread, what));
            }
            // where no rings are compared, the spread can't be either
            Due.is("set(" + spread + ", 0) without notes", -1, new RingBars().set(spread, 0));
            Due.is("set(" + spread + ", 0) of one note", -1, chosen(new int[] {5}, new int[][] {{5, 9}}).set(spread, 0));
        }
    }

    private static void leastWaste() {
        Edge.says("Terms 5", "WASTE: all that BLANKS are longer, added. BEST: the SET with the least WASTE");
        best(chosen(new int[] {10}, new int[][] {{13, 0}, {12, 0}, {11, 0}, {14, 0}}), 0, 1, 2);
        best(chosen(new int[] {10, 20}, new int[][] {{30, 0}, {25, 0}, {22, 0}, {19, 0}}), 0, 11, 3, 2);
        int[][] far = {{99, 0}, {99, 0}, {99, 0}, {99, 0}, {99, 0}, {99, 0}, {99, 0}, {99, 0}};
        best(chosen(new int[] {1, 1, 1, 1, 1, 1, 1, 1}, far), 0, 8 * 98, 0, 1, 2, 3, 4, 5, 6, 7);
        // less waste beyond the spread does not count
        RingBars x = chosen(new int[] {10, 10}, new int[][] {{10, 0}, {10, 50}, {15, 1}, {15, 51}});
        best(x, 0, -1, -1, -1);
        best(x, 1, 5, 0, 2);
        best(x, 50, 0, 0, 1);
    }

    private static void firstOfSeveral() {
        Edge.says("Terms 5", "of several the first (by BLANKS of NOTES 0, 1, ..).");
        best(chosen(new int[] {10, 10}, new int[][] {{10, 0}, {10, 0}, {10, 0}}), 0, 0, 0, 1);
        best(chosen(new int[] {10, 10}, new int[][] {{11, 0}, {10, 0}, {10, 0}}), 0, 0, 1, 2);
        best(chosen(new int[] {10, 10}, new int[][] {{10, 9}, {10, 0}, {10, 0}}), 8, 0, 1, 2);
        // 12 and 11 may change places: the first note has the first of them
        best(chosen(new int[] {10, 10}, new int[][] {{12, 0}, {11, 0}}), 0, 3, 0, 1);
        best(chosen(new int[] {10, 12}, new int[][] {{12, 0}, {12, 0}, {9, 0}}), 0, 2, 0, 1);
        // the least waste of several, of which the first note's least blank is in the later one
        best(chosen(new int[] {10, 10, 15}, new int[][] {{15, 0}, {10, 0}, {15, 0}, {10, 0}}), 0, 0, 1, 3, 0);
    }

    private static void withoutNotes() {
        RingBars x = new RingBars();
        best(x, 0, 0);
        best(x, 99, 0);
        x.blank(5, 5);
        best(x, 0, 0);
        Due.is("set(0, -1)", -1, x.set(0, -1));
        Due.is("set(0, 2)", -1, x.set(0, 2));
    }

    private static void noSet() {
        Edge.says("Promise 32", "NONE if there is none (no SET), one can't be, or another what.");
        RingBars x = new RingBars();
        x.note(5, 5);
        none(x, 99, 1);
        x.blank(5, 0);
        best(x, 0, 0, 0);
        x.note(5, 5);
        none(x, 99, 2);
        x.blank(5, 99);
        best(x, 99, 0, 0, 1);
        none(x, 98, 2);
    }

    private static void setRefused() {
        int[][] none = {{-1, 0}, {100, 0}, {MOST, 0}, {LEAST, 0}, {20, -1}, {20, 3}, {20, 9}, {20, MOST}, {20, LEAST}};
        for (int[] n : none) {
            Edge.refused("set(" + n[0] + ", " + n[1] + ")", -1, y -> y.set(n[0], n[1]));
        }
        Edge.refused("set(20, 1)", 1, y -> y.set(20, 1));
    }

    private static void downNotAbove() {
        Edge.says("Terms 5", "DOWN of a BAR: the NOTE with the greatest GOAL not above its TONE 0 and SLACK together");
        for (int slack : new int[] {0, 1, 9999}) {
            RingBars x = lawed(3, "bend 0 thick;mass 0 1;");
            x.slack(slack);
            x.note(20001 + slack, 5);
            Due.is("down to a note one above tone and slack " + slack, -1, x.down(0));
            x.note(20000 + slack, 5);
            Due.is("down to a note at tone and slack " + slack, 1, x.down(0));
            x.slice(0, 0, 21, 5, 5);
            Due.is("down of a higher tone", 0, x.down(0));
        }
        RingBars x = lawed(3, "");
        x.slack(0);
        x.note(1, 5);
        Due.is("down of tone 0, to the least goal", -1, x.down(0));
        x.slack(1);
        Due.is("down of tone 0, to the least goal by slack", 0, x.down(0));
        RingBars y = lawed(16, "bend 0 99999;mass 0 1 when at=0;");
        y.slack(9999);
        y.note(999999, 5);
        Due.is("down of the greatest tone", 0, y.down(0));
    }

    private static void downOfSeveral() {
        Edge.says("Terms 5", "of several the first. ENOUGH WAX");
        RingBars x = lawed(3, "bend 0 thick;mass 0 1;");
        int[] goals = {5, 19000, 20000, 20000, 19999, 20011, 20000};
        int[] want = {0, 1, 2, 2, 2, 2, 2};
        for (int n = 0; n < goals.length; n++) {
            x.note(goals[n], 5);
            Due.is("down behind note " + n, want[n], x.down(0));
        }
        x.slack(11);
        Due.is("down by more slack", 5, x.down(0));
        // a bar of its own, whatever its goals are
        x.goal(0, 0, 1);
        x.bar(3);
        x.slice(1, 0, 1, 5, 5);
        Due.is("down of bar 1", 0, x.down(1));
        Due.is("down of bar 0", 5, x.down(0));
    }

    private static void downOfEight() {
        RingBars x = lawed(3, "bend 0 thick;mass 0 1;");
        for (int n = 0; n < 8; n++) {
            x.note(10000 + n, 5);
            Due.is("down to note " + n, n, x.down(0));
        }
        RingBars y = lawed(3, "bend 0 thick;mass 0 1;");
        for (int n = 0; n < 8; n++) {
            y.note(10000 - n, 5);
            Due.is("down to note 0", 0, y.down(0));
        }
    }

    private static void downRefused() {
        Edge.says("Promise 33", "DOWN of a BAR; NONE if there is none, or no such BAR.");
        for (int bar : new int[] {2, -1, MOST, LEAST}) {
            Edge.refused("down(" + bar + ")", -1, y -> y.down(bar));
        }
        Due.is("down of the last bar", 1, Edge.told().down(1));
        Due.is("down without notes", -1, lawed(3, "bend 0 9;mass 0 1;").down(0));
    }

    /** A bar whose tone k is 100000 less 1000 times the wax of slice i. */
    private static RingBars waxed(int k, int i) {
        return lawed(5, "bend " + k + " 100-wax when at=" + i + ";mass " + k + " 1 when at=0;");
    }

    private static void enoughNotAbove() {
        Edge.says("Terms 5", "the least WAX (from what there is on, 99 at most) for which that TONE is not above its GOAL and SLACK together.");
        for (int k = 0; k < 3; k++) {
            for (int i = 0; i < 5; i += 2) {
                RingBars x = waxed(k, i);
                x.slack(7);
                x.goal(0, k, 59993);
                Due.is("enough at goal and slack, tone " + k + ", slice " + i, 40, x.enough(0, i, k));
                x.goal(0, k, 59992);
                Due.is("enough one below goal and slack", 41, x.enough(0, i, k));
                Due.is("enough on another slice", -1, x.enough(0, 1, k));
                Due.is("enough for another tone", -1, x.enough(0, i, (k + 1) % 3));
            }
        }
    }

    private static void enoughFromWhatThereIs() {
        RingBars x = waxed(0, 2);
        x.slack(0);
        x.goal(0, 0, 60000);
        for (int w : new int[] {0, 39, 40}) {
            x.wax(0, 2, w);
            Due.is("enough from " + w, 40, x.enough(0, 2, 0));
        }
        for (int w : new int[] {41, 98, 99}) {
            x.wax(0, 2, w);
            Due.is("enough from " + w, w, x.enough(0, 2, 0));
            Due.is("no wax is put", w, x.of(0, 2, 3));
        }
        x.wax(0, 2, 40);
        Due.is("enough on another slice, from none", 0, x.enough(0, 1, 0));
        x.wax(0, 2, 39);
        Due.is("enough on another slice, never", -1, x.enough(0, 1, 0));
        // a tone that is not above its goal as it is, or that is lost
        x.goal(0, 0, 999999);
        Due.is("enough of a lost bar", 39, x.enough(0, 2, 0));
        // with thick, grain and heavy as they are
        RingBars z = lawed(3, "bend 0 thick*1000+grain*100+heavy*10-wax*10 when at=1;mass 0 1000 when at=0;");
        z.slack(0);
        z.slice(0, 1, 31, 7, 4);
        Due.is("tone", 31740, z.tone(0, 0));
        z.goal(0, 0, 31700);
        Due.is("enough by what a slice is", 4, z.enough(0, 1, 0));
        z.goal(0, 0, 31739);
        Due.is("enough by what a slice is", 1, z.enough(0, 1, 0));
        Due.is("enough on another slice, never", -1, z.enough(0, 2, 0));
        // less wax than there is on does not count
        RingBars y = lawed(3, "bend 0 1 when at=0 and wax<30;bend 0 100 when at=0;mass 0 1 when at=0;");
        y.goal(0, 0, 50000);
        y.wax(0, 0, 29);
        Due.is("enough from 29", 29, y.enough(0, 0, 0));
        y.wax(0, 0, 30);
        Due.is("enough from 30", -1, y.enough(0, 0, 0));
    }

    private static void enoughAtMost() {
        Edge.says("Promise 34", "NONE if 99 is not");
        RingBars x = waxed(0, 4);
        x.slack(0);
        int[][] cases = {{100000, 0}, {99999, 1}, {99000, 1}, {2000, 98}, {1999, 99}, {1000, 99}, {999, -1}, {1, -1}};
        for (int[] c : cases) {
            x.goal(0, 0, c[0]);
            Due.is("enough for " + c[0], c[1], x.enough(0, 4, 0));
        }
        x.wax(0, 4, 99);
        x.goal(0, 0, 1000);
        Due.is("enough with all wax on", 99, x.enough(0, 4, 0));
        x.goal(0, 0, 999);
        Due.is("not enough with all wax on", -1, x.enough(0, 4, 0));
        // what weighs counts as well as what bends
        RingBars y = lawed(16, "bend 0 1;mass 0 1+wax;");
        y.slack(0);
        y.goal(0, 0, 139);
        Due.is("enough of what weighs", 99, y.enough(0, 15, 0));
        y.goal(0, 0, 138);
        Due.is("not enough of what weighs", -1, y.enough(0, 15, 0));
    }

    private static void enoughWithoutAGoal() {
        Edge.says("Promise 34", "there is no GOAL, or one can't be.");
        RingBars x = waxed(1, 0);
        Due.is("enough without a goal", -1, x.enough(0, 0, 1));
        x.goal(0, 0, 1);
        x.goal(0, 2, 1);
        Due.is("enough with goals of other tones", -1, x.enough(0, 0, 1));
        Due.is("enough of a tone that is 0", 0, x.enough(0, 0, 0));
        x.goal(0, 1, 1);
        x.slack(999);
        Due.is("enough for the least goal, by slack", 99, x.enough(0, 0, 1));
        x.goal(0, 1, 0);
        Due.is("enough when the goal is none again", -1, x.enough(0, 0, 1));
    }

    private static void enoughRefused() {
        int[][] none = {{0, 4, 0}, {0, -1, 0}, {0, MOST, 0}, {0, LEAST, 0}, {1, 3, 0}, {0, 0, 3}, {0, 0, -1}, {0, 0, MOST},
            {0, 0, LEAST}, {0, 0, 2}, {2, 0, 0}, {-1, 0, 0}, {MOST, 0, 0}, {LEAST, 0, 0}};
        for (int[] n : none) {
            Edge.refused("enough(" + n[0] + ", " + n[1] + ", " + n[2] + ")", -1, y -> y.enough(n[0], n[1], n[2]));
        }
        Edge.refused("enough(1, 0, 0)", 3, y -> y.enough(1, 0, 0));
    }
}
