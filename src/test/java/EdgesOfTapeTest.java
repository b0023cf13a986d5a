/** The boundaries of promises 6 to 9: how long the tape is, which texts there are, what fault() tells. */
public final class EdgesOfTapeTest {
    private static final int LEAST = Integer.MIN_VALUE;
    private static final int MOST = Integer.MAX_VALUE;
    private static final int BLANKS = 0x20202020;

    public static void main(String[] args) {
        highestFirst();
        fullTape();
        nothingComes();
        end();
        endRefused();
        emptyThen();
        whichTexts();
        noSuchText();
        aFaultKeepsTheText();
        latestFault();
        anotherWhat();
        emptyAtFirst();
        Due.close();
    }

    private static void highestFirst() {
        Edge.says("Promise 6", "Twenty bytes come behind the TAPE, of each number the highest first: how many it has.");
        RingBars x = new RingBars();
        x.bar(3);
        // "bend", " 0 1", "2345", ";ben", "d 1 "
        Due.is("feed", 20, x.feed(0x62656e64, 0x20302031, 0x32333435, 0x3b62656e, 0x64203120));
        // "6789", "0 ; ", three of blanks
        Due.is("feed behind it", 40, x.feed(0x36373839, 0x30203b20, BLANKS, BLANKS, BLANKS));
        Due.is("text(0, 0)", 2, x.text(0, 0));
        Due.is("the first number", 12345, x.tells(0, 0, 0, 0, 0));
        Due.is("the second number", 67890, x.tells(0, 0, 1, 0, 0));
        // each of the twenty places is one byte: what can't stand is told where it is
        for (int place = 0; place < 20; place++) {
            int[] n = {BLANKS, BLANKS, BLANKS, BLANKS, BLANKS};
            int shift = 24 - place % 4 * 8;
            n[place / 4] = n[place / 4] & ~(255 << shift) | 255 << shift;
            x.feed(n[0], n[1], n[2], n[3], n[4]);
            Due.is("a byte 255 at " + place, -1, x.text(0, 1));
            Due.is("its fault(1)", place, x.fault(1));
        }
    }

    private static void fullTape() {
        Edge.says("Promise 6", "NONE, and nothing comes, if there would be more than 500.");
        RingBars x = new RingBars();
        for (int n = 1; n <= 25; n++) {
            Due.is("feed " + n, 20 * n, x.feed(BLANKS, BLANKS, BLANKS, BLANKS, BLANKS));
        }
        Due.is("feed 26", -1, x.feed(-1, -1, -1, -1, -1));
        Due.is("end(500)", true, x.end(500));
        Due.is("feed 26 again", -1, x.feed(-1, -1, -1, -1, -1));
        Due.is("text(0, 0) of 500 blanks", 0, x.text(0, 0));
        Due.is("feed behind it", 20, x.feed(BLANKS, BLANKS, BLANKS, BLANKS, BLANKS));
    }

    private static void nothingComes() {
        Edge.says("Promise 6", "nothing comes");
        String text = "bend 0 9;" + " ".repeat(473);
        RingBars x = new RingBars();
        x.bar(3);
        Due.put(x, text.substring(0, 480));
        Due.is("feed behind 480", 500, x.feed(BLANKS, BLANKS, BLANKS, BLANKS, BLANKS));
        for (int length = 499; length > 480; length -= 6) {
            x.end(length);
            Due.is("feed behind " + length, -1, x.feed(-1, -1, -1, -1, -1));
            Due.is("end(" + (length + 1) + ")", false, x.end(length + 1));
        }
        Due.is("end(481)", true, x.end(481));
        Due.is("feed behind 481", -1, x.feed(-1, -1, -1, -1, -1));
        Due.is("end(480)", true, x.end(480));
        Due.is("feed behind 480", 500, x.feed(BLANKS, BLANKS, BLANKS, BLANKS, 0x2020203b));
        Due.is("feed behind 500", -1, x.feed(-1, -1, -1, -1, -1));
        Due.is("text with a last byte that can't stand", -1, x.text(0, 0));
        Due.is("fault(1)", 499, x.fault(1));
        Edge.refused("feed behind 481", -1, y -> {
            y.end(0);
            Due.put(y, "bend 2 5;" + " ".repeat(472));
        }, y -> y.feed(-1, -1, -1, -1, -1));
    }

    private static void end() {
        Edge.says("Promise 7", "The TAPE has its first n bytes alone: true");
        RingBars x = new RingBars();
        Due.is("end(0) of an empty tape", true, x.end(0));
        Due.is("end(1) of an empty tape", false, x.end(1));
        Due.put(x, "bend 0 1;bend 0 2;##");
        Due.is("end(20) of twenty", true, x.end(20));
        Due.is("end(21) of twenty", false, x.end(21));
        Due.is("end(18)", true, x.end(18));
        Due.is("end(19) of eighteen", false, x.end(19));
        Due.is("text", 2, x.text(0, 0));
        Due.put(x, "bend 0 1;bend 0 2;##");
        Due.is("end(9)", true, x.end(9));
        Due.is("end(18) of nine", false, x.end(18));
        Due.is("text", 1, x.text(0, 0));
        Due.put(x, "##");
        Due.is("end(0)", true, x.end(0));
        Due.is("end(1) of none", false, x.end(1));
        Due.is("text of none", 0, x.text(0, 0));
        // what comes behind the end comes there, not where the tape had been
        Due.put(x, "bend 0 1;####");
        x.end(9);
        Due.is("feed behind nine", 29, x.feed(0x62656e64, 0x20312032, 0x3b202020, BLANKS, BLANKS));
        Due.is("text", 2, x.text(0, 0));
    }

    private static void endRefused() {
        Edge.says("Promise 7", "false, changing nothing, if it has not so many, or n is below 0.");
        // the tape of what is told has fifteen bytes
        for (int n : new int[] {16, 17, 500, 501, MOST, -1, -15, LEAST}) {
            Edge.denied("end(" + n + ")", x -> x.end(n));
        }
        Due.is("end(15) of fifteen", true, Edge.told().end(15));
    }

    private static void emptyThen() {
        Edge.says("Promise 8", "The TAPE, empty then, is LAW k (sort 0, k 0, 1) or JOB k (1, 0 .. 3): how many lines.");
        RingBars x = new RingBars();
        Due.is("a law", 1, Due.law(x, 0, "bend 0 1;"));
        Due.is("end(1) behind a law", false, x.end(1));
        Due.is("feed behind a law", 20, x.feed(BLANKS, BLANKS, BLANKS, BLANKS, BLANKS));
        x.end(0);
        Due.is("a job", 1, Due.job(x, 0, "wax 0 1;"));
        Due.is("end(1) behind a job", false, x.end(1));
        Due.is("feed behind a job", 20, x.feed(BLANKS, BLANKS, BLANKS, BLANKS, BLANKS));
        x.end(0);
        Due.refused(x, 0, "bend 0 1", 1, 8);
        Due.is("end(1) behind a fault", false, x.end(1));
        Due.is("feed behind a fault", 20, x.feed(BLANKS, BLANKS, BLANKS, BLANKS, BLANKS));
        Due.is("text of blanks", 0, x.text(1, 3));
        Due.is("text of an empty tape", 0, x.text(0, 0));
        Due.is("text of an empty tape again", 0, x.text(1, 0));
    }

    private static void whichTexts() {
        Edge.says("Terms 1", "LAWS 0, 1 are TEXTS");
        Edge.says("Terms 1", "JOBS 0 .. 3 are TEXTS");
        RingBars x = new RingBars();
        x.bar(3);
        for (int k = 0; k < 2; k++) {
            Due.is("law " + k, 1, Due.law(x, k, "bend 0 " + (k + 5) + ";"));
        }
        for (int k = 0; k < 4; k++) {
            Due.is("job " + k, 1, Due.job(x, k, "wax 0 " + (k + 10) + ";"));
        }
        for (int k = 0; k < 2; k++) {
            Due.is("what law " + k + " tells", k + 5, x.tells(k, 0, 0, 0, 0));
        }
        for (int k = 0; k < 4; k++) {
            Due.is("job(" + k + ", 0)", 0, x.job(k, 0));
            Due.is("the wax of job " + k, k + 10, x.of(0, 0, 3));
        }
        Due.is("law 1 anew", 1, Due.law(x, 1, "bend 0 9;"));
        Due.is("what law 0 tells", 5, x.tells(0, 0, 0, 0, 0));
        Due.is("what law 1 tells", 9, x.tells(1, 0, 0, 0, 0));
    }

    private static void noSuchText() {
        Edge.says("Promise 8", "NONE: no such one (fault() tells 0)");
        int[][] none = {{0, 2}, {0, -1}, {0, 3}, {0, MOST}, {0, LEAST}, {1, 4}, {1, -1}, {1, MOST}, {1, LEAST}, {2, 0}, {-1, 0},
            {MOST, 0}, {LEAST, 0}};
        for (int[] n : none) {
            // without a fault before, and with an empty tape, nothing at all is changed
            Edge.refused("text(" + n[0] + ", " + n[1] + ")", -1, x -> {
                x.end(0);
                Due.is("job 3 without a fault", 1, Due.job(x, 3, "shave 2 3;"));
            }, x -> x.text(n[0], n[1]));
            RingBars x = Edge.told();
            Due.is("fault(0) before", 2, x.fault(0));
            Due.is("text(" + n[0] + ", " + n[1] + ") with a fault before", -1, x.text(n[0], n[1]));
            Due.is("fault(0)", 0, x.fault(0));
            Due.is("fault(1)", -1, x.fault(1));
            Due.is("law 0 stays", 85, x.tells(0, 0, 0, 0, 0));
            Due.is("law 1 stays", 68, x.tells(1, 0, 0, 0, 0));
            Due.is("job 0 stays", 1, x.job(0, 0));
            Due.is("job 3 stays", 1, x.job(3, 0));
        }
    }

    private static void aFaultKeepsTheText() {
        Edge.says("Promise 8", "or a FAULT (it stays as it was).");
        String[] wrong = {"bend 0 1;bend 0 2", "bend 0 1;bend 3 2;", "drift 1;".repeat(17)};
        for (int k = 0; k < 2; k++) {
            for (int sort = 1; sort <= 3; sort++) {
                RingBars x = Edge.told();
                x.end(0);
                Due.put(x, wrong[sort - 1]);
                Due.is("law " + k + " with a fault", -1, x.text(0, k));
                Due.is("fault(0)", sort, x.fault(0));
                Due.is("law 0", 85, x.tells(0, 0, 0, 0, 0));
                Due.is("law 1", 68, x.tells(1, 0, 0, 0, 0));
                Due.is("law 0, tone 1", 17, x.tells(0, 0, 1, 0, 0));
                Due.is("tone(0, 0)", 13076, x.tone(0, 0));
            }
        }
        String[] wrongJobs = {"wax 3 77;shave 0", "wax 3 77;shave 0 0;", "wax 3 77;".repeat(17)};
        for (int k = 0; k < 4; k++) {
            for (int sort = 1; sort <= 3; sort++) {
                RingBars x = Edge.told();
                x.end(0);
                Due.put(x, wrongJobs[sort - 1]);
                Due.is("job " + k + " with a fault", -1, x.text(1, k));
                Due.is("fault(0)", sort, x.fault(0));
                int[] passes = {1, 0, 3, 1};
                Due.is("job(" + k + ", 0)", passes[k], x.job(k, 0));
                Due.is("of(0, 3, 3)", 4, x.of(0, 3, 3));
            }
        }
    }

    private static void latestFault() {
        Edge.says("Promise 9", "Of the latest text(): what 0 the FAULT (0 without one), 1 its place (NONE).");
        RingBars x = new RingBars();
        Due.is("fault(0) at first", 0, x.fault(0));
        Due.is("fault(1) at first", -1, x.fault(1));
        Due.refused(x, 0, "bend 0 1/0;", 2, 9);
        x.feed(-1, -1, -1, -1, -1);
        x.end(0);
        Due.is("fault(0) behind feed and end", 2, x.fault(0));
        Due.is("fault(1) behind feed and end", 9, x.fault(1));
        Due.taken(x, 0, "bend 0 1;", 1);
        Due.refused(x, 1, ";", 1, 0);
        Due.taken(x, 1, "", 0);
        Due.refused(x, 1, "wax 0 1;".repeat(17), 3, 128);
        Due.refused(x, 0, "bend 0 1", 1, 8);
    }

    private static void anotherWhat() {
        Edge.says("Promise 9", "NONE for another what.");
        for (int what : new int[] {2, -1, 3, MOST, LEAST}) {
            Edge.refused("fault(" + what + ")", -1, x -> x.fault(what));
        }
    }

    private static void emptyAtFirst() {
        Edge.says("Terms 1", "are TEXTS (empty at first) = {(bend K E");
        Edge.says("Terms 1", "are TEXTS (empty at first) = {(shave N N");
        RingBars x = new RingBars();
        x.bar(3);
        for (int law = 0; law < 2; law++) {
            for (int word = 0; word < 3; word++) {
                for (int k = 0; k < 3; k++) {
                    Due.is("tells at first", 0, x.tells(law, word, k, 0, 0));
                }
            }
        }
        for (int k = 0; k < 4; k++) {
            Due.is("job at first", 0, x.job(k, 0));
        }
        Due.is("the tape at first", 20, x.feed(BLANKS, BLANKS, BLANKS, BLANKS, BLANKS));
    }
}
