/** Promises 6 to 9: the tape, texts and their faults. */
public final class TextsTest {
    public static void main(String[] args) {
        tape();
        bytes();
        whichText();
        tokens();
        lawGrammar();
        jobGrammar();
        numbers();
        tooMany();
        full();
        Due.close();
    }

    private static void tape() {
        RingBars x = new RingBars();
        for (int n = 20; n <= 500; n += 20) {
            Due.is("feed", n, x.feed(0, 0, 0, 0, 0));
        }
        Due.is("feed of a full tape", -1, x.feed(0, 0, 0, 0, 0));
        Due.is("end(501)", false, x.end(501));
        Due.is("end(-1)", false, x.end(-1));
        Due.is("end(500)", true, x.end(500));
        Due.is("end(481)", true, x.end(481));
        Due.is("feed that would make 501", -1, x.feed(0, 0, 0, 0, 0));
        Due.is("end(482)", false, x.end(482));
        Due.is("end(480)", true, x.end(480));
        Due.is("feed that makes 500", 500, x.feed(0, 0, 0, 0, 0));
        Due.is("end(0)", true, x.end(0));
        Due.is("feed behind end(0)", 20, x.feed(0, 0, 0, 0, 0));
    }

    private static void bytes() {
        RingBars x = new RingBars();
        // "bend", " 0 1", ";\n\n\n" and blanks: the highest byte of each number comes first
        x.feed(0x62656e64, 0x20302031, 0x3b0a0a0a, 0x20202020, 0x0a0a0a0a);
        Due.is("text(0, 0)", 1, x.text(0, 0));
        x.feed(0x62656e64, 0x20302031, 0x3bff0a0a, 0x20202020, 0x0a0a0a0a);
        Due.is("text(0, 0) with a byte 255", -1, x.text(0, 0));
        Due.is("fault(1)", 9, x.fault(1));
        Due.is("fault(2)", -1, x.fault(2));
        Due.is("fault(-1)", -1, x.fault(-1));
    }

    private static void whichText() {
        RingBars x = new RingBars();
        x.bar(3);
        Due.is("a law", 1, Due.law(x, 0, "bend 0 7;"));
        Due.is("a law of no lines", 0, Due.law(x, 1, " \n "));
        Due.refused(x, 0, "bend 0", 1, 6);
        Due.is("feed behind a fault", 20, x.feed(0, 0, 0, 0, 0));
        int[][] none = {{2, 0}, {-1, 0}, {0, 2}, {0, -1}, {1, 4}, {1, -1}};
        for (int[] n : none) {
            Due.refused(x, 0, ";", 1, 0);
            Due.is("text(" + n[0] + ", " + n[1] + ")", -1, x.text(n[0], n[1]));
            Due.is("fault(0) of no such text", 0, x.fault(0));
            Due.is("fault(1) of no such text", -1, x.fault(1));
        }
        Due.is("what law 0 tells stays", 7, x.tells(0, 0, 0, 0, 0));
        Due.put(x, "bend 0 8");
        x.text(0, 0);
        Due.is("what law 0 tells behind a fault", 7, x.tells(0, 0, 0, 0, 0));
        Due.is("law 0 anew", 1, Due.law(x, 0, "bend 0 9;"));
        Due.is("what law 0 tells anew", 9, x.tells(0, 0, 0, 0, 0));
        Due.is("an empty law", 0, x.text(0, 0));
        Due.is("what an empty law tells", 0, x.tells(0, 0, 0, 0, 0));
        Due.is("job 3", 1, Due.job(x, 3, "shave 0 1;"));
        Due.is("job(3, 0)", 1, x.job(3, 0));
        Due.put(x, "shave 0 0;");
        Due.is("job 3 with a fault", -1, x.text(1, 3));
        Due.is("job(3, 0) as it was", 1, x.job(3, 0));
    }

    private static void tokens() {
        RingBars x = new RingBars();
        Due.taken(x, 0, "bend0thick*2;bend 1\n\nthick*2when at<2;", 2);
        Due.taken(x, 0, "\n bend 0 1 ; \n", 1);
        Due.refused(x, 0, "bends 0 1;", 1, 0);
        Due.refused(x, 0, "Bend 0 1;", 1, 0);
        Due.refused(x, 0, "bendX 0 1;", 1, 0);
        for (String letter : new String[] {"a", "z", "A", "Z"}) {
            Due.refused(x, 0, "bend" + letter + " 0 1;", 1, 0);
        }
        for (String other : new String[] {"`", "{", "@", "[", "_", "\u00e9"}) {
            Due.refused(x, 0, "bend" + other + " 0 1;", 1, 4);
        }
        Due.refused(x, 0, "bend 0 1/1:;", 1, 10);
        Due.refused(x, 0, "ben 0 1;", 1, 0);
        Due.refused(x, 0, "bend 0 thickgrain;", 1, 7);
        Due.refused(x, 0, "bend 0 passesx;", 1, 7);
        Due.refused(x, 0, "bend 0 1,;", 1, 8);
        Due.refused(x, 0, "bend\t0 1;", 1, 4);
        Due.refused(x, 0, "bend 0 1.;", 1, 8);
        Due.refused(x, 0, "bend 0 1\r;", 1, 8);
        Due.refused(x, 0, "bend 0 1:;", 1, 8);
        Due.refused(x, 0, "bend 0 1?;", 1, 8);
        Due.refused(x, 0, "bend 0 1';", 1, 8);
        Due.refused(x, 0, "bend 0 \u00e9;", 1, 7);
        Due.refused(x, 0, "\0bend 0 1;", 1, 0);
        Due.refused(x, 0, "bend 0 1;\u00a0", 1, 9);
        Due.refused(x, 0, "bend 0 1 ", 1, 9);
        Due.refused(x, 0, "bend 0 1\n\n\n", 1, 11);
    }

    private static void lawGrammar() {
        RingBars x = new RingBars();
        Due.taken(x, 0, "bend 0 at+size-mid*end/3+thick*grain*heavy-wax+heat+wet;mass 1 5;sway 2 0-1;drift heat;", 4);
        Due.taken(x, 0, "drift at+size+mid+end+thick+grain+heavy+wax;", 1);
        Due.taken(x, 0, "mass 2 1 when at=1 and not size<4 or (at>2 or not (wax=0)) and 1<2;", 1);
        Due.refused(x, 0, "bend", 1, 4);
        Due.refused(x, 0, "bend at 1;", 1, 5);
        Due.refused(x, 0, "bend 0", 1, 6);
        Due.refused(x, 0, "bend 0;", 1, 6);
        Due.refused(x, 0, "bend 0 ;", 1, 7);
        Due.refused(x, 0, "bend 0 -1;", 1, 7);
        Due.refused(x, 0, "bend 0 1 2;", 1, 9);
        Due.refused(x, 0, "bend 0 1+;", 1, 9);
        Due.refused(x, 0, "bend 0 1++1;", 1, 9);
        Due.refused(x, 0, "bend 0 1*;", 1, 9);
        Due.refused(x, 0, "bend 0 1/;", 1, 9);
        Due.refused(x, 0, "bend 0 1/at;", 1, 9);
        Due.refused(x, 0, "bend 0 (1);", 1, 7);
        Due.refused(x, 0, "bend 0 1=1;", 1, 8);
        Due.refused(x, 0, "bend 0 low;", 1, 7);
        Due.refused(x, 0, "bend 0 when;", 1, 7);
        Due.refused(x, 0, "bend 0 bend;", 1, 7);
        Due.refused(x, 0, "drift;", 1, 5);
        Due.refused(x, 0, "drift 0 1;", 1, 8);
        Due.refused(x, 0, "shave 0 1;", 1, 0);
        Due.refused(x, 0, "bend 0 1;;", 1, 9);
        Due.refused(x, 0, "bend 0 1 when;", 1, 13);
        Due.refused(x, 0, "bend 0 1 when", 1, 13);
        Due.refused(x, 0, "bend 0 1 when 1;", 1, 15);
        Due.refused(x, 0, "bend 0 1 when 1=;", 1, 16);
        Due.refused(x, 0, "bend 0 1 when 1=1=1;", 1, 17);
        Due.refused(x, 0, "bend 0 1 when 1=1 and;", 1, 21);
        Due.refused(x, 0, "bend 0 1 when 1=1 or;", 1, 20);
        Due.refused(x, 0, "bend 0 1 when or 1=1;", 1, 14);
        Due.refused(x, 0, "bend 0 1 when 1=1 not 1=1;", 1, 18);
        Due.refused(x, 0, "bend 0 1 when (1=1;", 1, 18);
        Due.refused(x, 0, "bend 0 1 when (1=1", 1, 18);
        Due.refused(x, 0, "bend 0 1 when 1=1);", 1, 17);
        Due.refused(x, 0, "bend 0 1 when (1)=1;", 1, 16);
        Due.refused(x, 0, "bend 0 1 when ();", 1, 15);
        Due.refused(x, 0, "bend 0 1 when 1<=1;", 1, 16);
        Due.refused(x, 0, "bend 0 1 when 1=1 when 1=1;", 1, 18);
    }

    private static void jobGrammar() {
        RingBars x = new RingBars();
        Due.taken(x, 1, "shave 0 1;arc 0 15 9;wax 15 99;wax 0 0 when low+high-top*2/3<passes;", 4);
        Due.taken(x, 1, "arc 9 3 1 when not (low>1 or high<2) and top=0;", 1);
        Due.refused(x, 1, "shave 0;", 1, 7);
        Due.refused(x, 1, "shave 0 1 1;", 1, 10);
        Due.refused(x, 1, "arc 0 1;", 1, 7);
        Due.refused(x, 1, "arc 0 1 2 3;", 1, 10);
        Due.refused(x, 1, "wax 0;", 1, 5);
        Due.refused(x, 1, "wax 0 low;", 1, 6);
        Due.refused(x, 1, "shave low 1;", 1, 6);
        Due.refused(x, 1, "shave 0 1 when thick>1;", 1, 15);
        Due.refused(x, 1, "shave 0 1 when wax>1;", 1, 15);
        Due.refused(x, 1, "shave 0 1 when heat>1;", 1, 15);
        Due.refused(x, 1, "bend 0 1;", 1, 0);
        Due.refused(x, 1, "when 1=1;", 1, 0);
        Due.refused(x, 1, "shave 0 1", 1, 9);
        Due.refused(x, 1, "shave 0 1+1;", 1, 9);
    }

    private static void numbers() {
        RingBars x = new RingBars();
        Due.taken(x, 0, "bend 00002 99999/99999;", 1);
        Due.refused(x, 0, "bend 3 1;", 2, 5);
        Due.refused(x, 0, "mass 99999 1;", 2, 5);
        Due.refused(x, 0, "sway 000002 1;", 1, 5);
        Due.refused(x, 0, "bend 0 100000;", 1, 7);
        Due.refused(x, 0, "bend 0 1/0;", 2, 9);
        Due.refused(x, 0, "bend 0 1/00000;", 2, 9);
        Due.refused(x, 0, "bend 0 1/000000;", 1, 9);
        Due.refused(x, 0, "bend 0 1 when 1*2/0=1;", 2, 18);
        // the first by its place, whatever its sort
        Due.refused(x, 0, "bend 3 1/0", 2, 5);
        Due.refused(x, 0, "bend 0 1/0", 2, 9);
        Due.refused(x, 0, "bend ; 1/0", 1, 5);
        Due.refused(x, 1, "shave 16 1;", 2, 6);
        Due.taken(x, 1, "shave 15 9;", 1);
        Due.refused(x, 1, "shave 0 0;", 2, 8);
        Due.refused(x, 1, "shave 0 10;", 2, 8);
        Due.refused(x, 1, "arc 16 0 1;", 2, 4);
        Due.refused(x, 1, "arc 0 16 1;", 2, 6);
        Due.refused(x, 1, "arc 0 1 0;", 2, 8);
        Due.refused(x, 1, "arc 0 1 10;", 2, 8);
        Due.refused(x, 1, "wax 16 1;", 2, 4);
        Due.refused(x, 1, "wax 0 100;", 2, 6);
        Due.refused(x, 1, "wax 0 1 when low/0=1;", 2, 17);
    }

    /** Texts of 500 bytes. */
    private static void full() {
        RingBars x = new RingBars();
        x.bar(3);
        Due.taken(x, 0, "sway 2 1" + "+1".repeat(245) + " ;", 1);
        Due.is("a long sum", 246, x.tells(1, 2, 2, 0, 0));
        x = new RingBars();
        Due.taken(x, 0, "sway 2 1 when 1=1" + " or 1=2".repeat(68) + "      ;", 1);
        Due.refused(x, 0, "(".repeat(500), 1, 0);
        Due.refused(x, 0, "drift " + "1+".repeat(247), 1, 500);
        Due.refused(x, 0, "drift " + " ".repeat(490) + "1234", 1, 500);
        x = new RingBars();
        Due.refused(x, 0, "drift " + " ".repeat(490) + "thic", 1, 496);
        Due.refused(x, 0, "drift 1" + " ".repeat(489) + "when", 1, 500);
        Due.refused(x, 0, "1".repeat(500), 1, 0);
        Due.refused(x, 0, "a".repeat(500), 1, 0);
    }

    private static void tooMany() {
        RingBars x = new RingBars();
        Due.taken(x, 0, "drift 1;".repeat(16), 16);
        Due.refused(x, 0, "drift 1;".repeat(17), 3, 128);
        Due.refused(x, 0, "drift 1;".repeat(16) + " \nbend", 3, 130);
        Due.refused(x, 0, "drift 1;".repeat(16) + "shave", 1, 128);
        Due.refused(x, 0, "drift 1;".repeat(16) + ";", 1, 128);
        x = new RingBars();
        Due.taken(x, 1, "wax 0 1;".repeat(16), 16);
        Due.refused(x, 1, "wax 0 1;".repeat(17), 3, 128);
        String head = "bend 0 1 when ";
        Due.taken(x, 0, head + "(".repeat(8) + "1=1" + ")".repeat(8) + ";", 1);
        Due.refused(x, 0, head + "(".repeat(9) + "1=1" + ")".repeat(9) + ";", 3, 22);
        Due.taken(x, 0, head + "not ".repeat(8) + "1=1;", 1);
        Due.refused(x, 0, head + "not ".repeat(9) + "1=1;", 3, 46);
        Due.taken(x, 0, head + "not (".repeat(4) + "1=1" + ")".repeat(4) + ";", 1);
        Due.refused(x, 0, head + "not (".repeat(4) + "not 1=1" + ")".repeat(4) + ";", 3, 34);
        Due.refused(x, 0, head + "not (".repeat(4) + "(1=1" + ")".repeat(5) + ";", 3, 34);
        // what was closed is open no more
        x = new RingBars();
        Due.taken(x, 0, head + "not (1=1) and ".repeat(9) + "not 1=2 or (1=1);", 1);
        Due.taken(x, 0, head + "(".repeat(7) + "(1=1) and (1=2) or not 1=1 and not 2=2" + ")".repeat(7) + ";", 1);
        Due.refused(x, 0, head + "(".repeat(7) + "not (1=1)" + ")".repeat(7) + ";", 3, 25);
        Due.refused(x, 0, head + "(".repeat(8) + "1=1 (" + ")".repeat(8) + ";", 1, 26);
    }
}
