import java.util.Arrays;

/**
 * Bars of wood that ring, their laws and jobs told as texts, and what may be asked of them.
 *
 * <p>Every row that a call needs is made with the object and used again, so that no call makes anything but the
 * first image.
 */
public final class RingBars {
    public static final int NONE = -1;

    private static final int BARS_MOST = 10;
    private static final int SLICES_LEAST = 3;
    private static final int SLICES_MOST = 16;
    private static final int THICK_MOST = 99;
    private static final int GRAIN_MOST = 9;
    private static final int HEAVY_MOST = 9;
    private static final int WAX_MOST = 99;
    private static final int DEPTH_MOST = 9;
    private static final int PASSES_MOST = 200;
    private static final int TONES = 3;
    private static final int GOAL_MOST = 999999;
    private static final int SLACK_MOST = 9999;
    private static final int TAPS_MOST = 12;
    private static final int HEARD_MOST = 9999999;
    private static final int DOUBT_MOST = 99999;
    private static final int TUNINGS = 2;
    private static final int LENGTH_MOST = 9999;
    private static final int HEAT_LEAST = -20;
    private static final int HEAT_MOST = 50;
    private static final int WET_MOST = 99;
    private static final int NIGHTS_MOST = 20;
    private static final int NOTES_MOST = 8;
    private static final int BLANKS_MOST = 8;
    private static final int SIZE_MOST = 99;
    private static final int RING_MOST = 99;
    private static final int FAR_MOST = 999999999;
    /** What bend and mass are held to, and what sway and drift are, on both sides of 0. */
    private static final int TOLD_MOST = 99999;
    private static final int SWAY_MOST = 9999;

    private static final int LAWS = 2;
    private static final int JOBS = 4;
    private static final int TAPE_MOST = 500;
    private static final int FEED_NUMBERS = 5;
    private static final int LINES_MOST = 16;
    private static final int OPEN_MOST = 8;
    private static final int DIGITS_MOST = 5;

    private static final int NO_TELLING = NONE - 99999;
    private static final int NO_TAKING = NONE - 9999999;
    private static final int NOTHING_SUCH = NONE - 1;

    /** The keywords of laws and jobs, six places each; a keyword's number is where it stands here. */
    private static final String WORDS =
        "bend  mass  sway  drift shave arc   wax   when  or    and   not   at    size  mid   end   thick grain heavy heat  wet   low   high  top   passes";
    private static final int WORD_WIDTH = 6;
    private static final int WORD_COUNT = 24;

    private static final int BEND = 0;
    private static final int MASS = 1;
    private static final int SWAY = 2;
    private static final int DRIFT = 3;
    private static final int SHAVE = 4;
    private static final int ARC = 5;
    private static final int WAX = 6;
    private static final int WHEN = 7;
    private static final int OR = 8;
    private static final int AND = 9;
    private static final int NOT = 10;
    private static final int AT = 11;
    private static final int SIZE = 12;
    private static final int MID = 13;
    private static final int END = 14;
    private static final int THICK = 15;
    private static final int GRAIN = 16;
    private static final int HEAVY = 17;
    private static final int HEAT = 18;
    private static final int WET = 19;
    private static final int LOW = 20;
    private static final int HIGH = 21;
    private static final int TOP = 22;
    private static final int PASSES = 23;

    // Kinds of tokens beside the keywords; a sign's kind is its own character, and all of those are above 39.
    private static final int NUMBER = 24;
    private static final int STRAY = 25;
    private static final int FINISH = 26;

    private static final int CANT_STAND = 1;
    private static final int OUT_OF_RANGE = 2;
    private static final int TOO_MANY = 3;

    private final World now = new World();
    /** The image; null until one is taken. */
    private World kept;
    private final int[] tape = new int[TAPE_MOST];
    private int tapeLength;
    private final Reader reader = new Reader();
    private final Sums sums = new Sums();
    private final PassSearch passSearch = new PassSearch();
    private final GrainSearch grainSearch = new GrainSearch();
    private final SetSearch setSearch = new SetSearch();
    private final int[] lowTones = new int[BARS_MOST];
    private final int[] points = new int[SLICES_MOST];
    private final int[] thinner = new int[SLICES_MOST];

    public RingBars() {
    }

    public int bar(int n) {
        if (n < SLICES_LEAST || n > SLICES_MOST || now.barCount >= BARS_MOST) {
            return NONE;
        }
        now.bars[now.barCount].begin(n);
        now.barCount++;
        return now.barCount - 1;
    }

    public boolean slice(int bar, int i, int thick, int grain, int heavy) {
        Bar b = barAt(bar);
        if (b == null || !b.has(i) || b.passCount > 0 || !within(thick, 1, THICK_MOST)
                || !within(grain, 1, GRAIN_MOST) || !within(heavy, 1, HEAVY_MOST)) {
            return false;
        }
        b.thick[i] = thick;
        b.grain[i] = grain;
        b.heavy[i] = heavy;
        return true;
    }

    public boolean wax(int bar, int i, int w) {
        Bar b = barAt(bar);
        if (b == null || !b.has(i) || !within(w, 0, WAX_MOST)) {
            return false;
        }
        b.wax[i] = w;
        return true;
    }

    public int of(int bar, int i, int what) {
        Bar b = barAt(bar);
        if (b == null || !b.has(i)) {
            return NONE;
        }
        switch (what) {
            case 0: return b.thick[i];
            case 1: return b.grain[i];
            case 2: return b.heavy[i];
            case 3: return b.wax[i];
            default: return NONE;
        }
    }

    public int feed(int a, int b, int c, int d, int e) {
        if (tapeLength + 4 * FEED_NUMBERS > TAPE_MOST) {
            return NONE;
        }
        addBytes(a);
        addBytes(b);
        addBytes(c);
        addBytes(d);
        addBytes(e);
        return tapeLength;
    }

    public boolean end(int n) {
        if (n < 0 || n > tapeLength) {
            return false;
        }
        tapeLength = n;
        return true;
    }

    public int text(int sort, int k) {
        int length = tapeLength;
        tapeLength = 0;
        now.fault = 0;
        now.faultPlace = NONE;
        Text old = textAt(sort, k);
        if (old == null) {
            return NONE;
        }
        reader.start(tape, length, sort == 0);
        // One turn more than there may be lines, for the one line too many to be told as a fault.
        for (int turn = 0; turn <= LINES_MOST && reader.goesOn(); turn++) {
            reader.line();
        }
        if (reader.fault != 0) {
            now.fault = reader.fault;
            now.faultPlace = reader.faultPlace;
            return NONE;
        }
        old.copyFrom(reader.made);
        return old.lines;
    }

    public int fault(int what) {
        switch (what) {
            case 0: return now.fault;
            case 1: return now.faultPlace;
            default: return NONE;
        }
    }

    public int force(int law) {
        if (!within(law, 0, LAWS - 1)) {
            return NONE;
        }
        int was = now.inForce;
        now.inForce = law;
        return was;
    }

    public int tells(int law, int word, int tone, int bar, int i) {
        Bar b = barAt(bar);
        if (b == null || !b.has(i) || !within(law, 0, LAWS - 1) || !within(word, BEND, SWAY) || !isTone(tone)) {
            return NO_TELLING;
        }
        sums.seeSlice(b, i, b.thick[i], b.grain[i], b.wax[i]);
        return sums.told(now.laws[law], word, tone);
    }

    public int tone(int bar, int k) {
        Bar b = barAt(bar);
        if (b == null || !isTone(k)) {
            return NONE;
        }
        return toneNow(b, k);
    }

    public int shave(int bar, int i, int d) {
        Bar b = barAt(bar);
        if (b == null) {
            return NONE;
        }
        return takeOff(b, i, d);
    }

    public int pass(int bar, int p, int what) {
        Bar b = barAt(bar);
        if (b == null || !within(p, 1, b.passCount)) {
            return NONE;
        }
        switch (what) {
            case 0: return b.passSlice[p - 1];
            case 1: return b.passDepth[p - 1];
            default: return NONE;
        }
    }

    public boolean goal(int bar, int k, int v) {
        Bar b = barAt(bar);
        if (b == null || !isTone(k) || !within(v, 0, GOAL_MOST)) {
            return false;
        }
        b.goals[k] = v;
        return true;
    }

    public boolean slack(int v) {
        if (!within(v, 0, SLACK_MOST)) {
            return false;
        }
        now.slack = v;
        return true;
    }

    public int state(int bar, int what) {
        Bar b = barAt(bar);
        if (b == null) {
            return NOTHING_SUCH;
        }
        switch (what) {
            case 0: return b.size;
            case 1: return b.passCount;
            case 2: return isLost(b) ? 1 : 0;
            case 3: return isTrue(b) ? 1 : 0;
            case 4: return b.lostBy;
            case 5: return b.goals[0];
            case 6: return b.goals[1];
            case 7: return b.goals[2];
            case 8: return b.tapCount;
            case 9: return amiss(b);
            default: return NOTHING_SUCH;
        }
    }

    public int takes(int bar, int i, int k) {
        Bar b = barAt(bar);
        if (b == null || !b.has(i) || !isTone(k) || b.thick[i] <= 1) {
            return NO_TAKING;
        }
        b.thinnedCopy(thinner, i);
        return toneNow(b, k) - sums.toneOf(now.law(), k, b, thinner, b.grain, b.wax);
    }

    public int job(int k, int bar) {
        Bar b = barAt(bar);
        if (b == null || !within(k, 0, JOBS - 1)) {
            return NONE;
        }
        int before = b.passCount;
        Text job = now.jobs[k];
        for (int l = 0; l < job.lines; l++) {
            if (comesTrue(job, l, b)) {
                doLine(job, l, b);
            }
        }
        return b.passCount - before;
    }

    public int fewest(int bar, int what) {
        Bar b = barAt(bar);
        if (b == null || b.size > PassSearch.SLICES || !within(what, 0, PassSearch.LONGEST)) {
            return NONE;
        }
        passSearch.prepare(sums, now.law(), b, now.slack);
        int length = passSearch.find();
        if (what == 0 || length < what) {
            return what == 0 ? length : NONE;
        }
        return passSearch.row[what - 1];
    }

    public int tap(int bar, int k, int v) {
        Bar b = barAt(bar);
        if (b == null || !isTone(k) || !within(v, 0, HEARD_MOST) || b.tapCount >= TAPS_MOST) {
            return NONE;
        }
        b.addTap(k, v);
        return b.tapCount;
    }

    public int fits(int bar, int most, int doubt, int what) {
        Bar b = barAt(bar);
        if (b == null || b.size > GrainSearch.SLICES || !within(most, 1, GrainSearch.GRAINS)
                || !within(doubt, 0, DOUBT_MOST)) {
            return NONE;
        }
        int i = what - 10;
        if (what != 0 && what != 1 && (what < 10 || !b.has(i))) {
            return NONE;
        }
        int count = grainSearch.find(sums, now.law(), b, most, doubt);
        if (what == 0) {
            return count;
        }
        return what == 1 ? grainSearch.nextPass(sums, now.law(), b) : grainSearch.sure(i);
    }

    public int off(int law) {
        if (law == NONE) {
            return offOf(now.laws[1]) < offOf(now.laws[0]) ? 1 : 0;
        }
        return within(law, 0, LAWS - 1) ? offOf(now.laws[law]) : NONE;
    }

    public int still(int bar, int k, int what) {
        Bar b = barAt(bar);
        if (b == null || !isTone(k) || what < 0) {
            return NONE;
        }
        int count = findPoints(b, k);
        if (what == 0) {
            return count;
        }
        return what <= count ? points[what - 1] : NONE;
    }

    public boolean holes(int bar, int a, int b) {
        Bar holed = barAt(bar);
        if (holed == null || !holed.has(a) || !holed.has(b) || a >= b) {
            return false;
        }
        holed.firstHole = a;
        holed.secondHole = b;
        return true;
    }

    public boolean tube(int bar, int tuning, int length) {
        Bar b = barAt(bar);
        if (b == null || !within(tuning, 0, TUNINGS - 1) || !within(length, 1, LENGTH_MOST)) {
            return false;
        }
        b.tubes[tuning] = length;
        return true;
    }

    public int in(int bar, int heat, int wet, int what) {
        Bar b = barAt(bar);
        if (b == null || !isAir(heat, wet) || !within(what, 0, 3)) {
            return NONE;
        }
        int drifted = drifted(toneNow(b, 0), driftIn(heat, wet));
        switch (what) {
            case 0: return drifted;
            case 1: return beat(b, 0, heat, drifted);
            case 2: return beat(b, 1, heat, drifted);
            default: return stopper(heat, drifted);
        }
    }

    public int night(int heat, int wet) {
        if (!isAir(heat, wet) || now.nightCount >= NIGHTS_MOST) {
            return NONE;
        }
        now.nightHeat[now.nightCount] = heat;
        now.nightWet[now.nightCount] = wet;
        now.nightCount++;
        return now.nightCount - 1;
    }

    public int nights(int night, int what) {
        if (night != NONE && (!within(night, 0, now.nightCount - 1) || !within(what, 0, 3))) {
            return NOTHING_SUCH;
        }
        fillLowTones();
        if (night == NONE) {
            return apart();
        }
        switch (what) {
            case 0: return worst(night, 0);
            case 1: return worst(night, 1);
            case 2: return suiting(night);
            default: return together(night);
        }
    }

    public int note(int goal, int length) {
        if (!within(goal, 1, GOAL_MOST) || !within(length, 1, SIZE_MOST) || now.noteCount >= NOTES_MOST) {
            return NONE;
        }
        now.noteGoal[now.noteCount] = goal;
        now.noteLength[now.noteCount] = length;
        now.noteCount++;
        return now.noteCount - 1;
    }

    public int blank(int length, int ring) {
        if (!within(length, 1, SIZE_MOST) || !within(ring, 0, RING_MOST) || now.blankCount >= BLANKS_MOST) {
            return NONE;
        }
        now.blankLength[now.blankCount] = length;
        now.blankRing[now.blankCount] = ring;
        now.blankCount++;
        return now.blankCount - 1;
    }

    public int set(int spread, int what) {
        if (!within(spread, 0, RING_MOST) || !within(what, 0, now.noteCount)) {
            return NONE;
        }
        int waste = setSearch.find(now, spread);
        if (what == 0 || waste == NONE) {
            return waste;
        }
        return setSearch.best[what - 1];
    }

    public int down(int bar) {
        Bar b = barAt(bar);
        if (b == null) {
            return NONE;
        }
        int most = toneNow(b, 0) + now.slack;
        int found = NONE;
        for (int j = 0; j < now.noteCount; j++) {
            int goal = now.noteGoal[j];
            if (goal <= most && (found == NONE || goal > now.noteGoal[found])) {
                found = j;
            }
        }
        return found;
    }

    public int enough(int bar, int i, int k) {
        Bar b = barAt(bar);
        if (b == null || !b.has(i) || !isTone(k) || b.goals[k] == 0) {
            return NONE;
        }
        int bend = sums.sumOf(now.law(), BEND, k, b, i);
        int mass = sums.sumOf(now.law(), MASS, k, b, i);
        for (int w = b.wax[i]; w <= WAX_MOST; w++) {
            sums.seeSlice(b, i, b.thick[i], b.grain[i], w);
            int tone = ratio(bend + sums.told(now.law(), BEND, k), mass + sums.told(now.law(), MASS, k));
            if (tone <= b.goals[k] + now.slack) {
                return w;
            }
        }
        return NONE;
    }

    public boolean image(boolean taken) {
        if (taken) {
            if (kept == null) {
                kept = new World();
            }
            kept.copyFrom(now);
        } else if (kept != null) {
            now.copyFrom(kept);
        }
        return kept != null;
    }

    public int look(int what) {
        switch (what) {
            case 0: return now.barCount;
            case 1: return now.nightCount;
            case 2: return now.noteCount;
            case 3: return now.blankCount;
            case 4: return now.slack;
            case 5: return now.inForce;
            case 6: return countLost();
            case 7: return countTrue();
            default: return NONE;
        }
    }

    private static boolean within(int v, int least, int most) {
        return v >= least && v <= most;
    }

    private static boolean isTone(int k) {
        return within(k, 0, TONES - 1);
    }

    private static boolean isAir(int heat, int wet) {
        return within(heat, HEAT_LEAST, HEAT_MOST) && within(wet, 0, WET_MOST);
    }

    /** A tone of what bends and what weighs. */
    private static int ratio(int bend, int mass) {
        return mass <= 0 ? 0 : (int) (1000L * bend / mass);
    }

    private Bar barAt(int bar) {
        return within(bar, 0, now.barCount - 1) ? now.bars[bar] : null;
    }

    private Text textAt(int sort, int k) {
        if (sort == 0 && within(k, 0, LAWS - 1)) {
            return now.laws[k];
        }
        return sort == 1 && within(k, 0, JOBS - 1) ? now.jobs[k] : null;
    }

    private void addBytes(int number) {
        for (int shift = 24; shift >= 0 && tapeLength < TAPE_MOST; shift -= 8) {
            tape[tapeLength] = (number >>> shift) & 255;
            tapeLength++;
        }
    }

    private int toneNow(Bar b, int k) {
        return sums.toneOf(now.law(), k, b, b.thick, b.grain, b.wax);
    }

    // toneNow() is passed over here: a job's calls must not go more than eight deep.
    private boolean isLost(Bar b) {
        for (int k = 0; k < TONES; k++) {
            if (b.goals[k] != 0 && sums.toneOf(now.law(), k, b, b.thick, b.grain, b.wax) < b.goals[k] - now.slack) {
                return true;
            }
        }
        return false;
    }

    private boolean isTrue(Bar b) {
        for (int k = 0; k < TONES; k++) {
            if (b.goals[k] != 0 && Math.abs(toneNow(b, k) - b.goals[k]) > now.slack) {
                return false;
            }
        }
        return true;
    }

    private int countLost() {
        int count = 0;
        for (int b = 0; b < now.barCount; b++) {
            count += isLost(now.bars[b]) ? 1 : 0;
        }
        return count;
    }

    private int countTrue() {
        int count = 0;
        for (int b = 0; b < now.barCount; b++) {
            count += isTrue(now.bars[b]) ? 1 : 0;
        }
        return count;
    }

    /** A pass is done and kept, where one can be: its number, or NONE. */
    private int takeOff(Bar b, int i, int d) {
        if (!b.has(i) || !within(d, 1, DEPTH_MOST) || b.thick[i] <= d || b.passCount >= PASSES_MOST) {
            return NONE;
        }
        b.thick[i] -= d;
        b.passSlice[b.passCount] = i;
        b.passDepth[b.passCount] = d;
        b.passCount++;
        if (b.lostBy == 0 && isLost(b)) {
            b.lostBy = b.passCount;
        }
        return b.passCount;
    }

    private boolean comesTrue(Text job, int l, Bar b) {
        if (!job.hasWhen(l)) {
            return true;
        }
        int low = toneNow(b, 0);
        int high = toneNow(b, 1);
        int top = toneNow(b, 2);
        sums.seeBar(low, high, top, b.passCount);
        return sums.value(job, job.whenFrom[l], job.whenTo[l]) != 0;
    }

    private void doLine(Text job, int l, Bar b) {
        int i = job.first[l];
        int amount = job.third[l];
        if (job.word[l] == WAX) {
            if (b.has(i)) {
                b.wax[i] = amount;
            }
        } else if (job.word[l] == SHAVE) {
            takeOff(b, i, amount);
        } else {
            int last = Math.min(job.second[l], b.size - 1);
            int middle = (i + job.second[l]) / 2;
            for (int s = i; s <= last; s++) {
                takeOff(b, s, amount - Math.abs(s - middle));
            }
        }
    }

    /** How far a law is off, over all taps; held, so that laws that are off beyond all bounds are alike. */
    private int offOf(Text law) {
        long far = 0;
        for (int j = 0; j < now.barCount; j++) {
            Bar b = now.bars[j];
            for (int t = 0; t < b.tapCount; t++) {
                int told = sums.toneOf(law, b.tapTone[t], b, b.tapThick[t], b.grain, b.tapWax[t]);
                far += Math.abs(told - b.tapHeard[t]);
            }
        }
        return (int) Math.min(far, FAR_MOST);
    }

    /** Puts the still points of a tone into their row: how many. */
    private int findPoints(Bar b, int k) {
        int count = 0;
        boolean wasBelow = false;
        for (int i = 0; i < b.size; i++) {
            sums.seeSlice(b, i, b.thick[i], b.grain[i], b.wax[i]);
            boolean below = sums.told(now.law(), SWAY, k) < 0;
            if (i > 0 && below != wasBelow) {
                points[count] = i - 1;
                count++;
            }
            wasBelow = below;
        }
        return count;
    }

    private int amiss(Bar b) {
        int count = findPoints(b, 0);
        if (b.firstHole == NONE || count == 0) {
            return NONE;
        }
        return Math.abs(b.firstHole - points[0]) + Math.abs(b.secondHole - points[count - 1]);
    }

    private int driftIn(int heat, int wet) {
        sums.seeAir(heat, wet);
        return sums.told(now.law(), DRIFT, 0);
    }

    private static int drifted(int tone, int drift) {
        long far = tone * (10000L - drift) / 10000;
        return (int) Math.max(0, Math.min(far, FAR_MOST));
    }

    /** What a tube of length 1 sounds; a longer one sounds the part of that by its length. */
    private static int air(int heat) {
        return 1000 * (3310 + 6 * heat);
    }

    private static int beat(Bar b, int tuning, int heat, int drifted) {
        int length = b.tubes[tuning];
        return length <= 0 ? 0 : Math.abs(air(heat) / length - drifted);
    }

    /** The shortest tube that sounds not above a number (from 0). */
    private static int shortest(int air, int number) {
        return number < 0 ? 1 : air / (number + 1) + 1;
    }

    /** Longer tubes sound lower, so that only the first one not above the aim and what is above it can be nearest. */
    private static int stopper(int heat, int aim) {
        int air = air(heat);
        int below = shortest(air, aim);
        if (below > LENGTH_MOST) {
            return shortest(air, air / LENGTH_MOST);
        }
        if (below <= 1) {
            return 1;
        }
        int above = air / (below - 1);
        return above - aim <= aim - air / below ? shortest(air, above) : below;
    }

    private void fillLowTones() {
        for (int b = 0; b < now.barCount; b++) {
            lowTones[b] = toneNow(now.bars[b], 0);
        }
    }

    /** The beat of a bar in a night; its tone 0 must stand in its row. */
    private int beatIn(int night, int bar, int tuning, int drift) {
        return beat(now.bars[bar], tuning, now.nightHeat[night], drifted(lowTones[bar], drift));
    }

    private int worst(int night, int tuning) {
        int drift = driftIn(now.nightHeat[night], now.nightWet[night]);
        int found = NONE;
        int most = NONE;
        for (int b = 0; b < now.barCount; b++) {
            int beat = beatIn(night, b, tuning, drift);
            if (beat > most) {
                most = beat;
                found = b;
            }
        }
        return found;
    }

    private int suiting(int night) {
        int first = worst(night, 0);
        int second = worst(night, 1);
        if (first == NONE || second == NONE) {
            return 0;
        }
        int drift = driftIn(now.nightHeat[night], now.nightWet[night]);
        return beatIn(night, second, 1, drift) < beatIn(night, first, 0, drift) ? 1 : 0;
    }

    private int apart() {
        int count = 0;
        for (int night = 0; night < now.nightCount; night++) {
            count += suiting(night);
        }
        return count;
    }

    private int together(int night) {
        int drift = driftIn(now.nightHeat[night], now.nightWet[night]);
        long most = 0;
        for (int a = 0; a < now.barCount; a++) {
            long first = drifted(lowTones[a], drift);
            for (int b = a + 1; b < now.barCount; b++) {
                long second = drifted(lowTones[b], drift);
                most = Math.max(most, Math.abs(first * lowTones[b] - second * lowTones[a]));
            }
        }
        return (int) Math.min(most / 1000, FAR_MOST);
    }

    /** One bar: its slices, goals, kept passes, taps, holes and tubes. */
    private static final class Bar {
        int size;
        final int[] thick = new int[SLICES_MOST];
        final int[] grain = new int[SLICES_MOST];
        final int[] heavy = new int[SLICES_MOST];
        final int[] wax = new int[SLICES_MOST];
        final int[] goals = new int[TONES];
        final int[] passSlice = new int[PASSES_MOST];
        final int[] passDepth = new int[PASSES_MOST];
        int passCount;
        int lostBy;
        final int[] tapTone = new int[TAPS_MOST];
        final int[] tapHeard = new int[TAPS_MOST];
        final int[][] tapThick = new int[TAPS_MOST][SLICES_MOST];
        final int[][] tapWax = new int[TAPS_MOST][SLICES_MOST];
        int tapCount;
        int firstHole;
        int secondHole;
        final int[] tubes = new int[TUNINGS];

        /** A bar's room may have held another bar before an image was gone back to, so all is told anew. */
        void begin(int n) {
            size = n;
            Arrays.fill(thick, 20);
            Arrays.fill(grain, 5);
            Arrays.fill(heavy, 5);
            Arrays.fill(wax, 0);
            Arrays.fill(goals, 0);
            Arrays.fill(tubes, 500);
            passCount = 0;
            lostBy = 0;
            tapCount = 0;
            firstHole = NONE;
            secondHole = NONE;
        }

        boolean has(int i) {
            return i >= 0 && i < size;
        }

        void addTap(int k, int v) {
            if (tapCount < TAPS_MOST) {
                tapTone[tapCount] = k;
                tapHeard[tapCount] = v;
                System.arraycopy(thick, 0, tapThick[tapCount], 0, SLICES_MOST);
                System.arraycopy(wax, 0, tapWax[tapCount], 0, SLICES_MOST);
                tapCount++;
            }
        }

        /** Puts what is thick into a row, with one slice thinner by one. */
        void thinnedCopy(int[] row, int i) {
            System.arraycopy(thick, 0, row, 0, SLICES_MOST);
            row[i]--;
        }

        void copyFrom(Bar other) {
            size = other.size;
            System.arraycopy(other.thick, 0, thick, 0, SLICES_MOST);
            System.arraycopy(other.grain, 0, grain, 0, SLICES_MOST);
            System.arraycopy(other.heavy, 0, heavy, 0, SLICES_MOST);
            System.arraycopy(other.wax, 0, wax, 0, SLICES_MOST);
            System.arraycopy(other.goals, 0, goals, 0, TONES);
            System.arraycopy(other.passSlice, 0, passSlice, 0, PASSES_MOST);
            System.arraycopy(other.passDepth, 0, passDepth, 0, PASSES_MOST);
            passCount = other.passCount;
            lostBy = other.lostBy;
            System.arraycopy(other.tapTone, 0, tapTone, 0, TAPS_MOST);
            System.arraycopy(other.tapHeard, 0, tapHeard, 0, TAPS_MOST);
            for (int t = 0; t < TAPS_MOST; t++) {
                System.arraycopy(other.tapThick[t], 0, tapThick[t], 0, SLICES_MOST);
                System.arraycopy(other.tapWax[t], 0, tapWax[t], 0, SLICES_MOST);
            }
            tapCount = other.tapCount;
            firstHole = other.firstHole;
            secondHole = other.secondHole;
            System.arraycopy(other.tubes, 0, tubes, 0, TUNINGS);
        }
    }

    /** All that an image keeps. */
    private static final class World {
        final Bar[] bars = new Bar[BARS_MOST];
        int barCount;
        final Text[] laws = new Text[LAWS];
        final Text[] jobs = new Text[JOBS];
        int inForce;
        int slack = 10;
        int fault;
        int faultPlace = NONE;
        final int[] nightHeat = new int[NIGHTS_MOST];
        final int[] nightWet = new int[NIGHTS_MOST];
        int nightCount;
        final int[] noteGoal = new int[NOTES_MOST];
        final int[] noteLength = new int[NOTES_MOST];
        int noteCount;
        final int[] blankLength = new int[BLANKS_MOST];
        final int[] blankRing = new int[BLANKS_MOST];
        int blankCount;

        World() {
            for (int b = 0; b < BARS_MOST; b++) {
                bars[b] = new Bar();
            }
            for (int l = 0; l < LAWS; l++) {
                laws[l] = new Text();
            }
            for (int j = 0; j < JOBS; j++) {
                jobs[j] = new Text();
            }
        }

        Text law() {
            return laws[inForce];
        }

        void copyFrom(World other) {
            for (int b = 0; b < other.barCount; b++) {
                bars[b].copyFrom(other.bars[b]);
            }
            barCount = other.barCount;
            for (int l = 0; l < LAWS; l++) {
                laws[l].copyFrom(other.laws[l]);
            }
            for (int j = 0; j < JOBS; j++) {
                jobs[j].copyFrom(other.jobs[j]);
            }
            inForce = other.inForce;
            slack = other.slack;
            fault = other.fault;
            faultPlace = other.faultPlace;
            System.arraycopy(other.nightHeat, 0, nightHeat, 0, NIGHTS_MOST);
            System.arraycopy(other.nightWet, 0, nightWet, 0, NIGHTS_MOST);
            nightCount = other.nightCount;
            System.arraycopy(other.noteGoal, 0, noteGoal, 0, NOTES_MOST);
            System.arraycopy(other.noteLength, 0, noteLength, 0, NOTES_MOST);
            noteCount = other.noteCount;
            System.arraycopy(other.blankLength, 0, blankLength, 0, BLANKS_MOST);
            System.arraycopy(other.blankRing, 0, blankRing, 0, BLANKS_MOST);
            blankCount = other.blankCount;
        }
    }

    /**
     * A law or a job as it was read: its lines, and their sums and conditions as steps in the order in which a stack
     * takes them. A step is the kind of its token and, for NUMBER and '/', a number.
     */
    private static final class Text {
        static final int STEP = 100000;

        int lines;
        final int[] word = new int[LINES_MOST];
        /** The tone of a law's line; the slice (or the first one) of a job's. */
        final int[] first = new int[LINES_MOST];
        /** The last slice of an arc. */
        final int[] second = new int[LINES_MOST];
        /** The depth, or the wax. */
        final int[] third = new int[LINES_MOST];
        final int[] sumFrom = new int[LINES_MOST];
        /** Where the sum ends and the condition begins. */
        final int[] whenFrom = new int[LINES_MOST];
        final int[] whenTo = new int[LINES_MOST];
        final int[] steps = new int[TAPE_MOST];
        int stepCount;

        void clear() {
            lines = 0;
            stepCount = 0;
        }

        void addStep(int kind, int number) {
            if (stepCount < TAPE_MOST) {
                steps[stepCount] = kind * STEP + number;
                stepCount++;
            }
        }

        boolean hasWhen(int l) {
            return whenFrom[l] < whenTo[l];
        }

        void copyFrom(Text other) {
            lines = other.lines;
            System.arraycopy(other.word, 0, word, 0, LINES_MOST);
            System.arraycopy(other.first, 0, first, 0, LINES_MOST);
            System.arraycopy(other.second, 0, second, 0, LINES_MOST);
            System.arraycopy(other.third, 0, third, 0, LINES_MOST);
            System.arraycopy(other.sumFrom, 0, sumFrom, 0, LINES_MOST);
            System.arraycopy(other.whenFrom, 0, whenFrom, 0, LINES_MOST);
            System.arraycopy(other.whenTo, 0, whenTo, 0, LINES_MOST);
            System.arraycopy(other.steps, 0, steps, 0, other.stepCount);
            stepCount = other.stepCount;
        }
    }

    /**
     * Reads a tape as a law or a job. Tokens are read from left to right and looked at once, so the first fault that
     * is met is the first by its place.
     */
    private static final class Reader {
        final Text made = new Text();
        int fault;
        int faultPlace;
        private final int[] kinds = new int[TAPE_MOST + 1];
        private final int[] values = new int[TAPE_MOST + 1];
        private final int[] places = new int[TAPE_MOST + 1];
        private int tokens;
        private int at;
        private boolean law;

        void start(int[] tape, int length, boolean isLaw) {
            law = isLaw;
            fault = 0;
            faultPlace = NONE;
            made.clear();
            at = 0;
            tokens = 0;
            int p = 0;
            while (p < length) {
                int from = p;
                int sign = tape[p];
                p++;
                if (isLetter(sign)) {
                    while (p < length && isLetter(tape[p])) {
                        p++;
                    }
                    addToken(wordAt(tape, from, p), 0, from);
                } else if (isDigit(sign)) {
                    while (p < length && isDigit(tape[p])) {
                        p++;
                    }
                    addToken(p - from <= DIGITS_MOST ? NUMBER : STRAY, numberAt(tape, from, p), from);
                } else if (sign != ' ' && sign != '\n') {
                    addToken(isSign(sign) ? sign : STRAY, 0, from);
                }
            }
            addToken(FINISH, 0, length);
        }

        private void addToken(int kind, int value, int place) {
            if (tokens <= TAPE_MOST) {
                kinds[tokens] = kind;
                values[tokens] = value;
                places[tokens] = place;
                tokens++;
            }
        }

        private static boolean isLetter(int sign) {
            return sign >= 'a' && sign <= 'z' || sign >= 'A' && sign <= 'Z';
        }

        private static boolean isDigit(int sign) {
            return sign >= '0' && sign <= '9';
        }

        private static boolean isSign(int sign) {
            return sign >= '(' && sign <= '+' || sign == '-' || sign == '/' || sign >= ';' && sign <= '>';
        }

        private static int wordAt(int[] tape, int from, int to) {
            if (to - from <= WORD_WIDTH) {
                for (int w = 0; w < WORD_COUNT; w++) {
                    if (isWord(tape, from, to, w)) {
                        return w;
                    }
                }
            }
            return STRAY;
        }

        private static boolean isWord(int[] tape, int from, int to, int w) {
            for (int c = 0; c < WORD_WIDTH; c++) {
                int sign = from + c < to ? tape[from + c] : ' ';
                if (WORDS.charAt(w * WORD_WIDTH + c) != sign) {
                    return false;
                }
            }
            return true;
        }

        private static int numberAt(int[] tape, int from, int to) {
            int number = 0;
            for (int p = from; p < to && p < from + DIGITS_MOST; p++) {
                number = number * 10 + tape[p] - '0';
            }
            return number;
        }

        boolean goesOn() {
            return fault == 0 && kinds[at] != FINISH;
        }

        private boolean refuse(int sort) {
            fault = sort;
            faultPlace = places[at];
            return false;
        }

        boolean line() {
            int word = kinds[at];
            if (law ? word > DRIFT : word < SHAVE || word > WAX) {
                return refuse(CANT_STAND);
            }
            int l = made.lines;
            if (l >= LINES_MOST) {
                return refuse(TOO_MANY);
            }
            at++;
            made.word[l] = word;
            made.first[l] = 0;
            made.sumFrom[l] = made.stepCount;
            if (!(law ? lawHead(l, word) && sum() : jobHead(l, word))) {
                return false;
            }
            made.whenFrom[l] = made.stepCount;
            if (kinds[at] == WHEN) {
                at++;
                if (!either(0)) {
                    return false;
                }
            }
            made.whenTo[l] = made.stepCount;
            if (kinds[at] != ';') {
                return refuse(CANT_STAND);
            }
            at++;
            made.lines++;
            return true;
        }

        private boolean lawHead(int l, int word) {
            if (word == DRIFT) {
                return true;
            }
            if (!number(0, TONES - 1)) {
                return false;
            }
            made.first[l] = values[at - 1];
            return true;
        }

        private boolean jobHead(int l, int word) {
            if (!number(0, SLICES_MOST - 1)) {
                return false;
            }
            made.first[l] = values[at - 1];
            if (word == ARC) {
                if (!number(0, SLICES_MOST - 1)) {
                    return false;
                }
                made.second[l] = values[at - 1];
            }
            if (!(word == WAX ? number(0, WAX_MOST) : number(1, DEPTH_MOST))) {
                return false;
            }
            made.third[l] = values[at - 1];
            return true;
        }

        /** A NUMBER that must be within bounds; its value stands at the token before the next one then. */
        private boolean number(int least, int most) {
            if (kinds[at] != NUMBER) {
                return refuse(CANT_STAND);
            }
            if (values[at] < least || values[at] > most) {
                return refuse(OUT_OF_RANGE);
            }
            at++;
            return true;
        }

        private boolean either(int open) {
            if (!both(open)) {
                return false;
            }
            for (int turn = 0; turn < TAPE_MOST && kinds[at] == OR; turn++) {
                at++;
                if (!both(open)) {
                    return false;
                }
                made.addStep(OR, 0);
            }
            return true;
        }

        private boolean both(int open) {
            if (!part(open)) {
                return false;
            }
            for (int turn = 0; turn < TAPE_MOST && kinds[at] == AND; turn++) {
                at++;
                if (!part(open)) {
                    return false;
                }
                made.addStep(AND, 0);
            }
            return true;
        }

        private boolean part(int open) {
            int kind = kinds[at];
            if (kind == NOT || kind == '(') {
                return open < OPEN_MOST ? opened(kind, open + 1) : refuse(TOO_MANY);
            }
            if (!sum()) {
                return false;
            }
            int sign = kinds[at];
            if (sign != '<' && sign != '=' && sign != '>') {
                return refuse(CANT_STAND);
            }
            at++;
            if (!sum()) {
                return false;
            }
            made.addStep(sign, 0);
            return true;
        }

        /** What a not or a ( begins; the depth is carried, and part() refuses to go too deep. */
        private boolean opened(int kind, int open) {
            at++;
            if (kind == NOT) {
                if (!part(open)) {
                    return false;
                }
                made.addStep(NOT, 0);
                return true;
            }
            if (!either(open)) {
                return false;
            }
            if (kinds[at] != ')') {
                return refuse(CANT_STAND);
            }
            at++;
            return true;
        }

        private boolean sum() {
            int sign = 0;
            for (int turn = 0; turn < TAPE_MOST; turn++) {
                if (!term()) {
                    return false;
                }
                if (sign != 0) {
                    made.addStep(sign, 0);
                }
                sign = kinds[at];
                if (sign != '+' && sign != '-') {
                    return true;
                }
                at++;
            }
            return true;
        }

        private boolean term() {
            int sign = 0;
            for (int turn = 0; turn < TAPE_MOST; turn++) {
                int kind = kinds[at];
                int value = values[at];
                if (kind != NUMBER && (sign == '/' || !isUnit(kind))) {
                    return refuse(CANT_STAND);
                }
                if (sign == '/' && value == 0) {
                    return refuse(OUT_OF_RANGE);
                }
                if (sign == '/') {
                    made.addStep(sign, value);
                } else {
                    made.addStep(kind, value);
                }
                if (sign == '*') {
                    made.addStep(sign, 0);
                }
                at++;
                sign = kinds[at];
                if (sign != '*' && sign != '/') {
                    return true;
                }
                at++;
            }
            return true;
        }

        private boolean isUnit(int kind) {
            return law ? kind == WAX || kind >= AT && kind <= WET : kind >= LOW && kind <= PASSES;
        }
    }

    /** Works out what laws and jobs tell, of a slice, of the air or of a bar that was shown to it. */
    private static final class Sums {
        private static final int STACK_MOST = 40;

        private final int[] units = new int[WORD_COUNT];
        private final int[] stack = new int[STACK_MOST];

        void seeSlice(Bar b, int at, int thick, int grain, int wax) {
            units[AT] = at;
            units[SIZE] = b.size;
            units[MID] = Math.abs(2 * at + 1 - b.size);
            units[END] = Math.min(at, b.size - 1 - at);
            units[THICK] = thick;
            units[GRAIN] = grain;
            units[HEAVY] = b.heavy[at];
            units[WAX] = wax;
            units[HEAT] = 0;
            units[WET] = 0;
        }

        void seeAir(int heat, int wet) {
            Arrays.fill(units, 0);
            units[HEAT] = heat;
            units[WET] = wet;
        }

        void seeBar(int low, int high, int top, int passes) {
            units[LOW] = low;
            units[HIGH] = high;
            units[TOP] = top;
            units[PASSES] = passes;
        }

        /** What a law's word tells of what was shown. */
        int told(Text law, int word, int tone) {
            for (int l = 0; l < law.lines; l++) {
                if (law.word[l] == word && law.first[l] == tone
                        && (!law.hasWhen(l) || value(law, law.whenFrom[l], law.whenTo[l]) != 0)) {
                    int v = value(law, law.sumFrom[l], law.whenFrom[l]);
                    return word <= MASS ? Math.max(0, Math.min(v, TOLD_MOST))
                        : Math.max(-SWAY_MOST, Math.min(v, SWAY_MOST));
                }
            }
            return 0;
        }

        int toneOf(Text law, int k, Bar b, int[] thick, int[] grain, int[] wax) {
            int bend = 0;
            int mass = 0;
            for (int i = 0; i < b.size; i++) {
                seeSlice(b, i, thick[i], grain[i], wax[i]);
                bend += told(law, BEND, k);
                mass += told(law, MASS, k);
            }
            return ratio(bend, mass);
        }

        /** A word's tellings of all slices of a bar but one, added. */
        int sumOf(Text law, int word, int k, Bar b, int but) {
            int all = 0;
            for (int i = 0; i < b.size; i++) {
                if (i != but) {
                    seeSlice(b, i, b.thick[i], b.grain[i], b.wax[i]);
                    all += told(law, word, k);
                }
            }
            return all;
        }

        /** What steps come to; a condition comes to 1 or 0. */
        int value(Text text, int from, int to) {
            int top = 0;
            stack[0] = 0;
            for (int p = from; p < to && p < TAPE_MOST; p++) {
                int kind = text.steps[p] / Text.STEP;
                int number = text.steps[p] % Text.STEP;
                boolean pushes = kind == NUMBER || kind == WAX || kind >= AT && kind <= PASSES;
                if (pushes && top < STACK_MOST) {
                    stack[top] = kind == NUMBER ? number : units[kind];
                    top++;
                } else if (kind == NOT && top >= 1) {
                    stack[top - 1] = 1 - stack[top - 1];
                } else if (kind == '/' && top >= 1 && number > 0) {
                    stack[top - 1] /= number;
                } else if (top >= 2) {
                    top--;
                    stack[top - 1] = joined(kind, stack[top - 1], stack[top]);
                }
            }
            return stack[0];
        }

        private static int joined(int kind, int a, int b) {
            switch (kind) {
                case '+': return a + b;
                case '-': return a - b;
                case '*': return a * b;
                case '<': return a < b ? 1 : 0;
                case '=': return a == b ? 1 : 0;
                case '>': return a > b ? 1 : 0;
                case AND: return a & b;
                default: return a | b;
            }
        }
    }

    /** Numbers from 0 that came since it was cleared; at most half as many as it has places. */
    private static final class Numbers {
        private static final int PLACES = 2048;
        private static final int SHIFT = 21;

        // A number is held as one more, so that 0 is an empty place.
        private final int[] held = new int[PLACES];
        int count;

        void clear() {
            if (count > 0) {
                Arrays.fill(held, 0);
                count = 0;
            }
        }

        /** A number comes: whether it is new. */
        boolean add(int number) {
            int place = (number * 0x9E3779B1) >>> SHIFT;
            for (int turn = 0; turn < PLACES; turn++) {
                if (held[place] == number + 1) {
                    return false;
                }
                if (held[place] == 0) {
                    held[place] = number + 1;
                    count++;
                    return true;
                }
                place = (place + 1) % PLACES;
            }
            return false;
        }
    }

    /**
     * Finds the fewest passes. What a bar is behind some passes hangs on how many each slice had, not on their order;
     * so of all orders only the first one is followed, and it is the first by numbers.
     */
    private static final class PassSearch {
        static final int SLICES = 8;
        static final int LONGEST = 5;
        private static final int DEPTHS = LONGEST + 1;

        final int[] row = new int[LONGEST];
        // What each slice tells for each tone behind 0 to 5 passes.
        private final int[] bend = new int[TONES * SLICES * DEPTHS];
        private final int[] mass = new int[TONES * SLICES * DEPTHS];
        private final int[] bends = new int[TONES];
        private final int[] masses = new int[TONES];
        private final int[] goals = new int[TONES];
        private final int[] taken = new int[SLICES];
        private final int[] room = new int[SLICES];
        private final Numbers met = new Numbers();
        private int size;
        private int slack;
        private int key;

        void prepare(Sums sums, Text law, Bar b, int slackNow) {
            size = Math.min(b.size, SLICES);
            slack = slackNow;
            key = 0;
            for (int k = 0; k < TONES; k++) {
                goals[k] = b.goals[k];
                bends[k] = 0;
                masses[k] = 0;
            }
            for (int i = 0; i < size; i++) {
                taken[i] = 0;
                room[i] = Math.min(LONGEST, b.thick[i] - 1);
                for (int c = 0; c <= room[i]; c++) {
                    sums.seeSlice(b, i, b.thick[i] - c, b.grain[i], b.wax[i]);
                    fill(sums, law, i, c);
                }
                for (int k = 0; k < TONES; k++) {
                    if (goals[k] != 0) {
                        bends[k] += bend[place(k, i, 0)];
                        masses[k] += mass[place(k, i, 0)];
                    }
                }
            }
        }

        private void fill(Sums sums, Text law, int i, int c) {
            for (int k = 0; k < TONES; k++) {
                if (goals[k] != 0) {
                    bend[place(k, i, c)] = sums.told(law, BEND, k);
                    mass[place(k, i, c)] = sums.told(law, MASS, k);
                }
            }
        }

        private static int place(int k, int i, int c) {
            return (k * SLICES + i) * DEPTHS + c;
        }

        /** How many passes (their slices are in the row then), or NONE. */
        int find() {
            if (isTrueNow()) {
                return 0;
            }
            for (int length = 1; length <= LONGEST; length++) {
                met.clear();
                if (goOn(0, length)) {
                    return length;
                }
            }
            return NONE;
        }

        private boolean goOn(int depth, int length) {
            if (depth >= length || depth >= LONGEST) {
                return false;
            }
            boolean last = depth + 1 == length;
            for (int i = 0; i < size; i++) {
                if (taken[i] < room[i] && isNearBehind(i, last)) {
                    row[depth] = i;
                    if (last || isReached(i, depth, length)) {
                        return true;
                    }
                }
            }
            return false;
        }

        /** Whether the row goes on to its end behind a pass that may be done. */
        private boolean isReached(int i, int depth, int length) {
            move(i, 1);
            boolean reached = met.add(key) && goOn(depth + 1, length);
            move(i, -1);
            return reached;
        }

        private void move(int i, int step) {
            int was = taken[i];
            taken[i] += step;
            key += step << (3 * i);
            for (int k = 0; k < TONES; k++) {
                if (goals[k] != 0) {
                    int p = place(k, i, was);
                    bends[k] += bend[p + step] - bend[p];
                    masses[k] += mass[p + step] - mass[p];
                }
            }
        }

        private boolean isTrueNow() {
            for (int k = 0; k < TONES; k++) {
                if (goals[k] != 0 && !isNear(k, bends[k], masses[k], true)) {
                    return false;
                }
            }
            return true;
        }

        /** Whether the bar would be not lost (and true, if it must be) behind one more pass of a slice. */
        private boolean isNearBehind(int i, boolean mustBeTrue) {
            for (int k = 0; k < TONES; k++) {
                if (goals[k] != 0) {
                    int p = place(k, i, taken[i]);
                    int bendThen = bends[k] + bend[p + 1] - bend[p];
                    int massThen = masses[k] + mass[p + 1] - mass[p];
                    if (!isNear(k, bendThen, massThen, mustBeTrue)) {
                        return false;
                    }
                }
            }
            return true;
        }

        private boolean isNear(int k, int bendSum, int massSum, boolean mustBeTrue) {
            int far = ratio(bendSum, massSum) - goals[k];
            return far >= -slack && (!mustBeTrue || far <= slack);
        }
    }

    /** Finds the rows of grains that fit all taps of a bar. */
    private static final class GrainSearch {
        static final int SLICES = 5;
        static final int GRAINS = 4;
        private static final int ROWS = 1024;

        // What each slice with each grain tells, at each tap.
        private final int[] bend = new int[TAPS_MOST * SLICES * GRAINS];
        private final int[] mass = new int[TAPS_MOST * SLICES * GRAINS];
        private final int[] grains = new int[SLICES];
        private final int[] rows = new int[ROWS];
        private int count;
        private int most;
        private final int[] thinner = new int[SLICES_MOST];
        private final Numbers unlike = new Numbers();

        /** How many rows fit; they are kept for what is asked of them next. */
        int find(Sums sums, Text law, Bar b, int grainMost, int doubt) {
            most = Math.max(1, Math.min(grainMost, GRAINS));
            for (int t = 0; t < b.tapCount; t++) {
                fill(sums, law, b, t, b.tapTone[t], b.tapThick[t], b.tapWax[t]);
            }
            int all = 1;
            for (int i = 0; i < b.size; i++) {
                all *= most;
            }
            count = 0;
            for (int r = 0; r < all && r < ROWS; r++) {
                unfold(r);
                if (isHeard(b, doubt)) {
                    rows[count] = r;
                    count++;
                }
            }
            return count;
        }

        private void fill(Sums sums, Text law, Bar b, int t, int k, int[] thick, int[] wax) {
            for (int i = 0; i < b.size && i < SLICES; i++) {
                for (int g = 0; g < most; g++) {
                    sums.seeSlice(b, i, thick[i], g + 1, wax[i]);
                    bend[place(t, i, g)] = sums.told(law, BEND, k);
                    mass[place(t, i, g)] = sums.told(law, MASS, k);
                }
            }
        }

        private static int place(int t, int i, int g) {
            return (t * SLICES + i) * GRAINS + g;
        }

        /** Puts row r of all rows into the row of grains, each less one. */
        private void unfold(int r) {
            int rest = r;
            for (int i = 0; i < SLICES && most > 0; i++) {
                grains[i] = rest % most;
                rest /= most;
            }
        }

        private int toneAt(Bar b, int t) {
            int bends = 0;
            int masses = 0;
            for (int i = 0; i < b.size && i < SLICES; i++) {
                int p = place(t, i, grains[i]);
                bends += bend[p];
                masses += mass[p];
            }
            return ratio(bends, masses);
        }

        private boolean isHeard(Bar b, int doubt) {
            for (int t = 0; t < b.tapCount; t++) {
                if (Math.abs(toneAt(b, t) - b.tapHeard[t]) > doubt) {
                    return false;
                }
            }
            return true;
        }

        int sure(int i) {
            int found = NONE;
            for (int r = 0; r < count; r++) {
                unfold(rows[r]);
                if (found != NONE && found != grains[i] + 1) {
                    return NONE;
                }
                found = grains[i] + 1;
            }
            return found;
        }

        int nextPass(Sums sums, Text law, Bar b) {
            int found = NONE;
            int greatest = 0;
            for (int i = 0; i < b.size; i++) {
                if (b.thick[i] > 1) {
                    int numbers = countUnlike(sums, law, b, i);
                    if (numbers > greatest) {
                        greatest = numbers;
                        found = i;
                    }
                }
            }
            return found;
        }

        /** The rows are found by now, so what was told at the first tap may be written over. */
        private int countUnlike(Sums sums, Text law, Bar b, int i) {
            b.thinnedCopy(thinner, i);
            fill(sums, law, b, 0, 0, thinner, b.wax);
            unlike.clear();
            for (int r = 0; r < count; r++) {
                unfold(rows[r]);
                unlike.add(toneAt(b, 0));
            }
            return unlike.count;
        }
    }

    /**
     * Finds the best set. Which blanks are used tells how many notes have one, the waste and the rings; so of all
     * orders in which the same blanks are used only the first one is followed, and it is the first by numbers.
     */
    private static final class SetSearch {
        final int[] best = new int[NOTES_MOST];
        private final int[] tried = new int[NOTES_MOST];
        private final int[] met = new int[1 << BLANKS_MOST];
        private int least;
        private int spread;

        /** The least waste (the blanks of the notes are in the row then), or NONE. */
        int find(World w, int spreadMost) {
            Arrays.fill(met, 0);
            least = NONE;
            spread = spreadMost;
            goOn(w, 0, 0, 0);
            return least;
        }

        private void goOn(World w, int note, int used, int waste) {
            if (note >= w.noteCount || note >= NOTES_MOST) {
                if (least == NONE || waste < least) {
                    least = waste;
                    System.arraycopy(tried, 0, best, 0, NOTES_MOST);
                }
                return;
            }
            for (int b = 0; b < w.blankCount; b++) {
                int longer = w.blankLength[b] - w.noteLength[note];
                int with = used | 1 << b;
                if (with != used && longer >= 0 && met[with] == 0 && ringsTogether(w, used, b)) {
                    met[with] = 1;
                    tried[note] = b;
                    goOn(w, note + 1, with, waste + longer);
                }
            }
        }

        private boolean ringsTogether(World w, int used, int blank) {
            for (int b = 0; b < w.blankCount; b++) {
                if ((used >> b & 1) == 1 && Math.abs(w.blankRing[b] - w.blankRing[blank]) > spread) {
                    return false;
                }
            }
            return true;
        }
    }
}
