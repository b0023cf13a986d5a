/** Promises 35 and 36: the image, and what may be looked at. */
public final class ImageTest {
    public static void main(String[] args) {
        none();
        all();
        bars();
        texts();
        look();
        Due.close();
    }

    private static void none() {
        RingBars x = new RingBars();
        Due.is("image(false) without one", false, x.image(false));
        x.bar(3);
        Due.is("image(false) without one", false, x.image(false));
        Due.is("nothing is done", 1, x.look(0));
        Due.is("image(true)", true, x.image(true));
        Due.is("image(false)", true, x.image(false));
        Due.is("image(false) again", true, x.image(false));
    }

    private static void all() {
        RingBars x = new RingBars();
        x.night(1, 2);
        x.note(5, 6);
        x.blank(7, 8);
        x.slack(3);
        x.force(1);
        x.image(true);
        for (int turn = 0; turn < 2; turn++) {
            Due.is("night", 1, x.night(3, 4));
            Due.is("note", 1, x.note(9, 6));
            Due.is("blank", 1, x.blank(7, 9));
            Due.is("blank", 2, x.blank(7, 9));
            x.slack(4);
            x.force(0);
            x.bar(3);
            Due.is("image(false)", true, x.image(false));
            int[] want = {0, 1, 1, 1, 3, 1, 0, 0};
            for (int what = 0; what < 8; what++) {
                Due.is("look(" + what + ") gone back", want[what], x.look(what));
            }
        }
        Due.is("set by notes and blanks as they were", 1, x.set(0, 0));
    }

    private static void bars() {
        RingBars x = new RingBars();
        x.bar(4);
        Due.law(x, 0, "bend 0 thick;mass 0 1;sway 0 mid-2;");
        x.slice(0, 1, 10, 9, 8);
        x.wax(0, 1, 7);
        x.goal(0, 0, 17500);
        x.holes(0, 1, 2);
        x.tube(0, 1, 100);
        x.shave(0, 0, 1);
        x.tap(0, 0, 17250);
        x.image(true);
        int[] before = seen(x);
        for (int turn = 0; turn < 2; turn++) {
            x.wax(0, 1, 8);
            x.goal(0, 0, 16000);
            x.goal(0, 1, 16000);
            x.holes(0, 0, 3);
            x.tube(0, 0, 200);
            x.tube(0, 1, 200);
            x.shave(0, 1, 9);
            x.shave(0, 2, 9);
            x.tap(0, 0, 5);
            x.bar(7);
            x.slice(1, 0, 1, 1, 1);
            x.wax(1, 3, 9);
            x.goal(1, 0, 9);
            x.tube(1, 0, 9);
            x.holes(1, 0, 1);
            x.tap(1, 0, 5);
            x.shave(1, 2, 5);
            x.image(false);
            int[] then = seen(x);
            for (int i = 0; i < before.length; i++) {
                Due.is("what is seen gone back, " + i, before[i], then[i]);
            }
            Due.is("one bar", 1, x.look(0));
        }
        x.bar(5);
        int[] fresh = {5, 0, 0, 1, 0, 0, 0, 0, 0, -1};
        for (int what = 0; what < 10; what++) {
            Due.is("a new bar where one was before, state " + what, fresh[what], x.state(1, what));
        }
        for (int i = 0; i < 5; i++) {
            Due.is("a new bar where one was before, thick", 20, x.of(1, i, 0));
            Due.is("a new bar where one was before, grain", 5, x.of(1, i, 1));
            Due.is("a new bar where one was before, heavy", 5, x.of(1, i, 2));
            Due.is("a new bar where one was before, wax", 0, x.of(1, i, 3));
        }
        Due.is("a new bar's tube", 20000 - 6620, x.in(1, 0, 0, 1));
    }

    private static int[] seen(RingBars x) {
        return new int[] {x.of(0, 1, 0), x.of(0, 1, 3), x.of(0, 2, 0), x.state(0, 1), x.state(0, 2), x.state(0, 3),
            x.state(0, 4), x.state(0, 5), x.state(0, 6), x.state(0, 8), x.state(0, 9), x.in(0, 0, 0, 1),
            x.in(0, 0, 0, 2), x.pass(0, 1, 0), x.pass(0, 2, 0), x.off(0), x.tone(0, 0), x.fits(0, 4, 999, 0)};
    }

    private static void texts() {
        RingBars x = new RingBars();
        x.bar(3);
        Due.law(x, 0, "bend 0 1;bend 1 11;");
        Due.law(x, 1, "bend 0 2;");
        Due.job(x, 2, "shave 0 1;");
        Due.refused(x, 0, "bend 3", 2, 5);
        x.image(true);
        Due.law(x, 0, "bend 0 9 when at=0;");
        Due.law(x, 1, "bend 0 8;bend 1 7;");
        Due.job(x, 2, "shave 0 2;shave 0 1;");
        Due.job(x, 0, "shave 0 2;");
        Due.put(x, "bend 0 5;");
        x.image(false);
        Due.is("the fault of then", 2, x.fault(0));
        Due.is("its place", 5, x.fault(1));
        Due.is("law 0", 1, x.tells(0, 0, 0, 0, 1));
        Due.is("law 0, tone 1", 11, x.tells(0, 0, 1, 0, 1));
        Due.is("law 1", 2, x.tells(1, 0, 0, 0, 0));
        Due.is("law 1, tone 1", 0, x.tells(1, 0, 1, 0, 0));
        Due.is("job 0", 0, x.job(0, 0));
        Due.is("job 2", 1, x.job(2, 0));
        Due.is("thick behind job 2", 19, x.of(0, 0, 0));
        Due.is("the tape is as it is", 1, x.text(0, 0));
        Due.is("law 0 from the tape", 5, x.tells(0, 0, 0, 0, 0));
        x.image(false);
        Due.is("law 0 gone back", 1, x.tells(0, 0, 0, 0, 1));
        x.image(true);
        Due.law(x, 0, "");
        Due.is("law 0 empty", 0, x.tells(0, 0, 0, 0, 1));
        x.image(false);
        Due.is("law 0 of the later image", 1, x.tells(0, 0, 0, 0, 1));
    }

    private static void look() {
        RingBars x = new RingBars();
        Due.is("look(8)", -1, x.look(8));
        Due.is("look(-1)", -1, x.look(-1));
        Due.law(x, 0, "bend 0 thick;mass 0 1;");
        for (int b = 0; b < 5; b++) {
            x.bar(3);
        }
        x.goal(0, 0, 20010);
        x.goal(1, 0, 20011);
        x.goal(2, 0, 19989);
        x.goal(3, 1, 100);
        int[] want = {5, 0, 0, 0, 10, 0, 2, 2};
        for (int what = 0; what < 8; what++) {
            Due.is("look(" + what + ")", want[what], x.look(what));
        }
        for (int b = 5; b < 10; b++) {
            x.bar(16);
            x.goal(b, 0, b < 8 ? 1 : 30000);
        }
        Due.is("look(6) of ten bars", 4, x.look(6));
        Due.is("look(7) of ten bars", 2, x.look(7));
        x.night(0, 0);
        Due.is("WORST of ten bars", 0, x.nights(0, 0));
        Due.is("TOGETHER of ten bars", 0, x.nights(0, 3));
    }
}
