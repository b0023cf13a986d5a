import java.util.LinkedHashMap;
import java.util.Map;
import java.util.function.Consumer;

/** The boundaries of promises 35 and 36: no image, all that an image keeps, what may be looked at. */
public final class EdgesOfImageTest {
    private static final int LEAST = Integer.MIN_VALUE;
    private static final int MOST = Integer.MAX_VALUE;

    public static void main(String[] args) {
        noImage();
        eachThing();
        moreThanOnce();
        takenAnew();
        notTheTape();
        newBarsAreNew();
        allBars();
        fullBar();
        fullTexts();
        fullNightsAndNotes();
        lostByGoesBack();
        ofANewObject();
        look();
        lostAndTrueBars();
        lookRefused();
        Due.close();
    }

    private static void noImage() {
        Edge.says("Promise 35", "THE IMAGE is taken (true), or gone back to (false): true; false if there is none.");
        RingBars x = new RingBars();
        Due.is("image(false) of a new object", false, x.image(false));
        x.bar(3);
        x.shave(0, 0, 1);
        x.slack(5);
        x.night(1, 1);
        Due.refused(x, 0, ";", 1, 0);
        Due.put(x, "bend 0 7;");
        Due.is("image(false) without one", false, x.image(false));
        Due.is("look(0)", 1, x.look(0));
        Due.is("of(0, 0, 0)", 19, x.of(0, 0, 0));
        Due.is("look(4)", 5, x.look(4));
        Due.is("look(1)", 1, x.look(1));
        Due.is("fault(0)", 1, x.fault(0));
        Due.is("text(0, 0)", 1, x.text(0, 0));
        Due.is("image(false) without one", false, x.image(false));
        Due.is("image(true)", true, x.image(true));
        Due.is("image(true) again", true, x.image(true));
        Due.is("image(false)", true, x.image(false));
        Due.is("image(false) again", true, x.image(false));
        Due.is("another object has none", false, new RingBars().image(false));
    }

    /** Puts the tape back to what it is on the object on which all is told. */
    private static void halfAText(RingBars x) {
        x.end(0);
        Due.put(x, "bend 2 7;mass 2");
    }

    private static Map<String, Consumer<RingBars>> changes() {
        Map<String, Consumer<RingBars>> all = new LinkedHashMap<>();
        all.put("bar", x -> x.bar(5));
        all.put("slice, thick", x -> x.slice(1, 1, 21, 5, 5));
        all.put("slice, grain", x -> x.slice(1, 1, 20, 6, 5));
        all.put("slice, heavy", x -> x.slice(1, 1, 20, 5, 6));
        all.put("slice, the first", x -> x.slice(1, 0, 7, 8, 9));
        all.put("slice, the last", x -> x.slice(1, 2, 7, 8, 9));
        all.put("wax", x -> x.wax(0, 0, 9));
        all.put("wax of the last slice", x -> x.wax(0, 3, 9));
        all.put("wax of bar 1", x -> x.wax(1, 2, 9));
        for (int k = 0; k < 2; k++) {
            int law = k;
            all.put("law " + k, x -> text(x, 0, law, "bend 0 1;"));
            all.put("law " + k + ", empty", x -> text(x, 0, law, ""));
            all.put("law " + k + ", long", x -> text(x, 0, law, "mass 1 2 when at<9;".repeat(16)));
        }
        for (int k = 0; k < 4; k++) {
            int job = k;
            all.put("job " + k, x -> text(x, 1, job, "wax 1 77;shave 0 1;shave 0 1;"));
            all.put("job " + k + ", empty", x -> text(x, 1, job, ""));
        }
        all.put("fault", x -> text(x, 0, 0, "bend 0 1 1;"));
        all.put("no such text", x -> text(x, 2, 0, ""));
        all.put("force", x -> x.force(1));
        all.put("shave", x -> x.shave(0, 1, 5));
        all.put("shave of bar 1", x -> x.shave(1, 2, 9));
        for (int k = 0; k < 3; k++) {
            int tone = k;
            all.put("goal " + k, x -> x.goal(0, tone, 12345));
            all.put("goal " + k + " of bar 1", x -> x.goal(1, tone, 12345));
        }
        all.put("slack", x -> x.slack(3));
        all.put("job done", x -> x.job(2, 0));
        all.put("tap", x -> x.tap(0, 0, 5));
        all.put("tap of bar 1", x -> x.tap(1, 0, 5));
        all.put("holes", x -> x.holes(0, 0, 1));
        all.put("holes, the first", x -> x.holes(0, 2, 3));
        all.put("holes, the second", x -> x.holes(0, 1, 2));
        all.put("holes of bar 1", x -> x.holes(1, 1, 2));
        all.put("tube 0", x -> x.tube(0, 0, 111));
        all.put("tube 1", x -> x.tube(0, 1, 111));
        all.put("tube of bar 1", x -> x.tube(1, 1, 111));
        all.put("night", x -> x.night(50, 99));
        all.put("note", x -> x.note(15601, 1));
        all.put("blank", x -> x.blank(10, 5));
        return all;
    }

    private static void text(RingBars x, int sort, int k, String text) {
        x.end(0);
        Due.put(x, text);
        x.text(sort, k);
        halfAText(x);
    }

    private static void eachThing() {
        Edge.says("Terms 5", "THE IMAGE: all that is and was told but the TAPE, as it was when it was taken");
        for (Map.Entry<String, Consumer<RingBars>> c : changes().entrySet()) {
            Edge.refused("back behind " + c.getKey(), 1, x -> x.image(true), x -> {
                c.getValue().accept(x);
                return x.image(false) ? 1 : 0;
            });
        }
    }

    private static void moreThanOnce() {
        Edge.says("Terms 5", "gone back to it may be more than once.");
        Edge.refused("back again and again", 1, x -> x.image(true), x -> {
            for (int turn = 0; turn < 3; turn++) {
                x.bar(7);
                x.shave(0, 0, 1 + turn);
                x.shave(1, turn, 2);
                x.tap(0, turn, turn);
                x.wax(1, turn, turn);
                x.goal(1, turn, 9);
                x.night(turn, turn);
                x.note(5, 5);
                x.blank(5, 5);
                x.tube(0, 0, 50 + turn);
                Due.is("image(false)", true, x.image(false));
            }
            return x.image(false) ? 1 : 0;
        });
    }

    private static void takenAnew() {
        RingBars x = new RingBars();
        x.bar(3);
        x.image(true);
        x.shave(0, 0, 1);
        x.image(true);
        x.shave(0, 0, 1);
        x.image(false);
        Due.is("back to the later image", 19, x.of(0, 0, 0));
        x.image(false);
        Due.is("back to it again", 19, x.of(0, 0, 0));
        x.shave(0, 1, 2);
        x.image(false);
        Due.is("pass(0, 1, 0)", 0, x.pass(0, 1, 0));
        Due.is("pass(0, 2, 0)", -1, x.pass(0, 2, 0));
        // what comes behind the image is not in it
        x.image(true);
        x.wax(0, 2, 50);
        Due.is("wax behind the image", 50, x.of(0, 2, 3));
        x.image(false);
        Due.is("wax gone back", 0, x.of(0, 2, 3));
        x.wax(0, 2, 60);
        x.image(true);
        x.wax(0, 2, 70);
        x.image(false);
        Due.is("wax of the image taken anew", 60, x.of(0, 2, 3));
    }

    private static void notTheTape() {
        Edge.says("Terms 5", "but the TAPE");
        RingBars x = new RingBars();
        x.bar(3);
        Due.put(x, "bend 0 7;");
        x.image(true);
        Due.is("the tape stays when an image is taken", 29, x.feed(0x62656e64, 0x20312038, 0x3b202020, 0x20202020, 0x20202020));
        x.image(false);
        Due.is("the tape stays when it is gone back", true, x.end(29));
        Due.is("text", 2, x.text(0, 0));
        Due.is("the tape is empty", false, x.end(1));
        x.image(false);
        Due.is("the tape stays empty", false, x.end(1));
        Due.is("feed", 20, x.feed(0, 0, 0, 0, 0));
        Due.is("the law went back", 0, x.tells(0, 0, 0, 0, 0));
    }

    private static void newBarsAreNew() {
        RingBars x = new RingBars();
        x.bar(3);
        Due.law(x, 0, "bend 0 thick;mass 0 1;sway 0 at-1;");
        x.image(true);
        for (int turn = 0; turn < 2; turn++) {
            Due.is("bar(16)", 1, x.bar(16));
            for (int i = 0; i < 16; i++) {
                x.slice(1, i, 50, 9, 9);
                x.wax(1, i, 9);
            }
            x.goal(1, 0, 49900);
            x.goal(1, 1, 5);
            x.goal(1, 2, 6);
            x.shave(1, 15, 9);
            Due.is("LOST BY", 1, x.state(1, 4));
            x.tap(1, 0, 5);
            x.holes(1, 3, 9);
            x.tube(1, 0, 7);
            x.tube(1, 1, 8);
            x.image(false);
            Due.is("state(1, 0) gone back", -2, x.state(1, 0));
            Due.is("bar(16)", 1, x.bar(16));
            int[] first = {16, 0, 0, 1, 0, 0, 0, 0, 0, -1};
            for (int what = 0; what < 10; what++) {
                Due.is("state(1, " + what + ") of a new bar", first[what], x.state(1, what));
            }
            int[] slice = {20, 5, 5, 0};
            for (int i = 0; i < 16; i++) {
                for (int what = 0; what < 4; what++) {
                    Due.is("of(1, " + i + ", " + what + ") of a new bar", slice[what], x.of(1, i, what));
                }
            }
            Due.is("tube 0 of a new bar", 20000 - 6620, x.in(1, 0, 0, 1));
            Due.is("tube 1 of a new bar", 20000 - 6620, x.in(1, 0, 0, 2));
            Due.is("pass(1, 1, 0) of a new bar", -1, x.pass(1, 1, 0));
            x.image(false);
        }
    }

    /** Ten bars of sixteen slices, of which the last slice of each is told. */
    private static void allBars() {
        RingBars x = new RingBars();
        for (int b = 0; b < 10; b++) {
            x.bar(16);
            x.slice(b, 15, 30 + b, 1 + b % 9, 9 - b % 9);
            x.wax(b, 15, 40 + b);
            x.goal(b, 2, 100 + b);
            x.tube(b, 1, 60 + b);
        }
        x.image(true);
        for (int b = 0; b < 10; b++) {
            x.slice(b, 15, 1, 9, 9);
            x.slice(b, 0, 1, 9, 9);
            x.wax(b, 15, 1);
            x.goal(b, 2, 1);
            x.tube(b, 1, 1);
        }
        Due.is("image(false)", true, x.image(false));
        for (int b = 0; b < 10; b++) {
            Due.is("thick of the last slice of bar " + b, 30 + b, x.of(b, 15, 0));
            Due.is("grain of the last slice of bar " + b, 1 + b % 9, x.of(b, 15, 1));
            Due.is("heavy of the last slice of bar " + b, 9 - b % 9, x.of(b, 15, 2));
            Due.is("wax of the last slice of bar " + b, 40 + b, x.of(b, 15, 3));
            Due.is("thick of the first slice of bar " + b, 20, x.of(b, 0, 0));
            Due.is("goal of tone 2 of bar " + b, 100 + b, x.state(b, 7));
            Due.is("tube of bar " + b, 3310000 / (60 + b), x.in(b, 0, 0, 2));
        }
        Due.is("look(0)", 10, x.look(0));
        Due.is("the eleventh bar", -1, x.bar(3));
    }

    /** A bar with 200 passes and 12 taps. */
    private static void fullBar() {
        RingBars x = new RingBars();
        x.bar(3);
        Due.law(x, 0, "bend 0 thick;mass 0 1 when at=0;");
        Due.job(x, 0, "shave 0 1;".repeat(9));
        for (int i = 0; i < 3; i++) {
            x.slice(0, i, 99, 5, 5);
        }
        for (int n = 0; n < 10; n++) {
            x.job(0, 0);
        }
        Due.job(x, 0, "shave 1 1;shave 2 1;".repeat(5));
        for (int n = 0; n < 11; n++) {
            x.job(0, 0);
        }
        x.image(true);
        Due.is("passes", 200, x.state(0, 1));
        for (int t = 1; t <= 11; t++) {
            x.tap(0, 0, t);
        }
        x.image(true);
        Due.is("tap 12", 12, x.tap(0, 0, 97000));
        int off = x.off(0);
        Due.is("tap 13", -1, x.tap(0, 0, 1));
        x.image(false);
        Due.is("taps gone back", 11, x.state(0, 8));
        Due.is("tap 12 again", 12, x.tap(0, 0, 97000));
        x.image(true);
        x.wax(0, 0, 1);
        x.image(false);
        Due.is("taps", 12, x.state(0, 8));
        Due.is("off of all", off, x.off(0));
        Due.is("passes", 200, x.state(0, 1));
        Due.is("the 201st", -1, x.shave(0, 0, 1));
        Due.is("pass(0, 90, 0)", 0, x.pass(0, 90, 0));
        Due.is("pass(0, 91, 0)", 1, x.pass(0, 91, 0));
        Due.is("pass(0, 200, 0)", 2, x.pass(0, 200, 0));
        Due.is("pass(0, 200, 1)", 1, x.pass(0, 200, 1));
    }

    private static void fullTexts() {
        StringBuilder law = new StringBuilder();
        StringBuilder job = new StringBuilder();
        for (int i = 0; i < 16; i++) {
            law.append("sway 1 ").append(10 + i).append(" when at=").append(i).append(';');
            job.append("arc ").append(i).append(' ').append(i).append(" 3 when 1=1;");
        }
        for (int k = 0; k < 4; k++) {
            RingBars x = new RingBars();
            x.bar(16);
            Due.is("lines", 16, Due.law(x, k % 2, law.toString()));
            Due.is("lines", 16, Due.job(x, k, job.toString()));
            x.image(true);
            Due.law(x, k % 2, "sway 1 7 when at>3;".repeat(16));
            Due.job(x, k, "wax 9 9 when 1=2;".repeat(16));
            x.image(false);
            for (int i = 0; i < 16; i++) {
                Due.is("line " + i + " of the law", 10 + i, x.tells(k % 2, 2, 1, 0, i));
            }
            Due.is("job(" + k + ", 0)", 16, x.job(k, 0));
            for (int i = 0; i < 16; i++) {
                Due.is("line " + i + " of the job", 17, x.of(0, i, 0));
            }
        }
    }

    private static void fullNightsAndNotes() {
        RingBars x = new RingBars();
        x.bar(3);
        Due.law(x, 0, "bend 0 1000;mass 0 100;drift heat*100 when wet>9;");
        x.tube(0, 1, 700);
        for (int n = 0; n < 19; n++) {
            x.night(0, n);
        }
        for (int n = 0; n < 7; n++) {
            x.note(9000 + n, 10 + n);
            x.blank(10 + n, n);
        }
        x.image(true);
        for (int turn = 0; turn < 3; turn++) {
            Due.is("night 19", 19, x.night(turn == 1 ? 0 : 50, 99));
            Due.is("the 21st night", -1, x.night(0, 0));
            Due.is("note 7", 7, x.note(9500, turn == 1 ? 99 : 20));
            Due.is("the ninth note", -1, x.note(1, 1));
            Due.is("blank 7", 7, x.blank(20 + turn, 7));
            Due.is("the ninth blank", -1, x.blank(1, 1));
            Due.is("night 19 suits", turn == 1 ? 0 : 1, x.nights(19, 2));
            Due.is("set(7, 0)", turn == 1 ? -1 : turn, x.set(7, 0));
            Due.is("down(0)", 7, x.down(0));
            if (turn < 2) {
                x.image(false);
                Due.is("look(1) gone back", 19, x.look(1));
                Due.is("look(2) gone back", 7, x.look(2));
                Due.is("look(3) gone back", 7, x.look(3));
                Due.is("down(0) gone back", 6, x.down(0));
            }
        }
        x.image(true);
        x.slack(1);
        x.image(false);
        Due.is("night 19 suits", 1, x.nights(19, 2));
        Due.is("set(7, 0)", 2, x.set(7, 0));
        Due.is("set(7, 8)", 7, x.set(7, 8));
        Due.is("down(0)", 7, x.down(0));
        Due.is("look(1)", 20, x.look(1));
    }

    private static void lostByGoesBack() {
        RingBars x = new RingBars();
        x.bar(3);
        Due.law(x, 0, "bend 0 thick;mass 0 1 when at=0;");
        x.slack(0);
        x.goal(0, 0, 59000);
        x.shave(0, 0, 1);
        x.image(true);
        x.shave(0, 0, 1);
        Due.is("LOST BY", 2, x.state(0, 4));
        x.image(false);
        Due.is("LOST BY gone back", 0, x.state(0, 4));
        x.goal(0, 0, 58000);
        x.shave(0, 0, 1);
        Due.is("LOST BY", 0, x.state(0, 4));
        x.shave(0, 0, 1);
        Due.is("LOST BY, another pass", 3, x.state(0, 4));
        x.image(true);
        x.shave(0, 0, 1);
        x.image(false);
        Due.is("LOST BY in the image", 3, x.state(0, 4));
    }

    private static void ofANewObject() {
        RingBars x = new RingBars();
        Due.is("image(true) of a new object", true, x.image(true));
        for (int b = 0; b < 10; b++) {
            x.bar(4);
        }
        x.slack(1);
        x.force(1);
        x.night(1, 1);
        x.note(1, 1);
        x.blank(1, 1);
        Due.law(x, 0, "bend 0 1;");
        Due.job(x, 3, "shave 0 1;");
        Due.refused(x, 0, ";", 1, 0);
        x.image(false);
        int[] first = {0, 0, 0, 0, 10, 0, 0, 0};
        for (int what = 0; what < 8; what++) {
            Due.is("look(" + what + ") gone back to nothing", first[what], x.look(what));
        }
        Due.is("fault(0) gone back to nothing", 0, x.fault(0));
        Due.is("fault(1) gone back to nothing", -1, x.fault(1));
        Due.is("bar(3)", 0, x.bar(3));
        Due.is("tells(0, 0, 0, 0, 0)", 0, x.tells(0, 0, 0, 0, 0));
        Due.is("job(3, 0)", 0, x.job(3, 0));
    }

    private static void look() {
        Edge.says("Promise 36", "What 0 BARS, 1 NIGHTS, 2 NOTES, 3 BLANKS, 4 SLACK, 5 THE LAW IN FORCE, 6 LOST BARS, 7 TRUE ones.");
        RingBars x = new RingBars();
        int[] want = {0, 0, 0, 0, 10, 0, 0, 0};
        looked(x, want);
        x.bar(3);
        want[0] = 1;
        want[7] = 1;
        looked(x, want);
        x.night(1, 1);
        want[1] = 1;
        looked(x, want);
        x.note(1, 1);
        want[2] = 1;
        looked(x, want);
        x.blank(1, 1);
        want[3] = 1;
        looked(x, want);
        x.slack(77);
        want[4] = 77;
        looked(x, want);
        x.force(1);
        want[5] = 1;
        looked(x, want);
        x.goal(0, 2, 78);
        want[6] = 1;
        want[7] = 0;
        looked(x, want);
    }

    private static void looked(RingBars x, int[] want) {
        for (int what = 0; what < 8; what++) {
            Due.is("look(" + what + ")", want[what], x.look(what));
        }
    }

    private static void lostAndTrueBars() {
        RingBars x = new RingBars();
        Due.law(x, 0, "bend 0 thick;mass 0 1;");
        // tones are 20000: goals at 20000 less slack less one up to 20000 and slack and one
        int[] goals = {19989, 19990, 20010, 20011, 0, 20000, 1, 999999, 20011, 19989};
        int[] lost = {0, 0, 0, 1, 1, 1, 1, 2, 3, 3};
        int[] isTrue = {0, 1, 2, 2, 3, 4, 4, 4, 4, 4};
        for (int b = 0; b < 10; b++) {
            x.bar(3 + b);
            x.goal(b, 0, goals[b]);
            Due.is("LOST of " + (b + 1) + " bars", lost[b], x.look(6));
            Due.is("TRUE of " + (b + 1) + " bars", isTrue[b], x.look(7));
        }
        for (int b = 0; b < 10; b++) {
            x.goal(b, 0, 999999);
        }
        Due.is("all are LOST", 10, x.look(6));
        Due.is("none is TRUE", 0, x.look(7));
        for (int b = 0; b < 10; b++) {
            x.goal(b, 0, 0);
        }
        Due.is("none is LOST", 0, x.look(6));
        Due.is("all are TRUE", 10, x.look(7));
    }

    private static void lookRefused() {
        Edge.says("Promise 36", "NONE for another what.");
        for (int what : new int[] {8, -1, 9, MOST, LEAST}) {
            Edge.refused("look(" + what + ")", -1, y -> y.look(what));
        }
    }
}
