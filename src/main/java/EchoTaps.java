/** An echo taken out of a line: taps learn the way of the echo, and their estimate is taken off. */
public final class EchoTaps {
    public static final int OUTSIDE = -2, STATE = -3, NONE = -6;
    public static final int GONE = -1000000000;

    private static final int FAR_TOP = 1000;
    private static final int NEAR_TOP = 2000;
    private static final int UNIT = 1024;
    private static final int TAPS = 8;
    private static final int TAP_LEAST = -4096, TAP_MOST = 4095;
    private static final int PART_LEAST = -1024, PART_MOST = 1023;
    private static final int DELAY_MOST = 15;

    private static final int STEP = 0, HANG = 1, CLIP = 2, HISS = 3, DELAY = 4;
    private static final int[] RULES_AT_FIRST = {512, 5, 0, 0, 0};
    private static final int[] RULES_MOST = {1024, 20, 500, 50, 15};

    /** The LAG stands behind the PARTS in their row. */
    private static final int LAG = TAPS;

    private static final int SEED_RANGE = 65537;
    private static final int RUN_MOST = 60;
    private static final int LEARNT_MOST = 200, LEARNT_CALM = 8, LIMIT_MOST = 999;

    private static final int LOUD_SPAN = 24, LIKE_SPAN = 24;
    private static final int TONE_SPAN = 16, TONE_MOST = 8;
    private static final int AGO_SPAN = 32, GAIN_SPAN = 32;
    private static final int BEGAN_SPAN = 200;

    /** Masks of rings: LIKENESS looks 39 FARS back, `began` 201 marks back; both rings are longer. */
    private static final int RING = 63, MARK_RING = 255;

    private static final int TALK_MARK = 1, TONE_MARK = 2;

    /** Where a number of the last TICK stands in the row that `last` tells. */
    private static final int ESTIMATE_AT = 0, LEFT_AT = 1, OUT_AT = 2, LOUD_AT = 3, POWER_AT = 4,
            TALK_AT = 5, TONE_AT = 6, LEARNED_AT = 7, TOLD = 8;

    private static final int COUNT_RULES = 10;

    private final Line line = new Line();
    /** `learnt` tries its RUN here, so that no call makes objects. */
    private final Line trial = new Line();
    private final Line[] images = {new Line(), new Line()};
    private int kept;

    public EchoTaps() {
    }

    // ---- 1 ticks

    public int rule(int what, int v) {
        if (!within(what, STEP, DELAY) || !within(v, 0, RULES_MOST[what])) {
            return OUTSIDE;
        }
        int was = line.rules[what];
        line.rules[what] = v;
        return was;
    }

    public int tick(int far, int near) {
        if (!within(far, -FAR_TOP, FAR_TOP) || !within(near, -NEAR_TOP, NEAR_TOP)) {
            return GONE + OUTSIDE;
        }
        line.takeFar(far);
        return line.takeNear(near);
    }

    public int tap(int k) {
        return within(k, 0, TAPS - 1) ? line.taps[k] : GONE + OUTSIDE;
    }

    public int last(int what) {
        if (!within(what, 0, TOLD - 1)) {
            return GONE + OUTSIDE;
        }
        return line.ticks == 0 ? GONE + STATE : line.told[what];
    }

    public int ago(int i, int what) {
        if (!within(i, 0, AGO_SPAN - 1) || !within(what, 0, 2)) {
            return GONE + OUTSIDE;
        }
        if (i >= line.ticks) {
            return GONE + NONE;
        }
        return what == 0 ? line.farAgo(i) : what == 1 ? line.nearAgo(i) : line.outAgo(i);
    }

    // ---- 2 echoes

    public int part(int k, int v) {
        if (!within(k, 0, LAG)) {
            return GONE + OUTSIDE;
        }
        boolean fits = k == LAG ? within(v, 0, DELAY_MOST) : within(v, PART_LEAST, PART_MOST);
        if (!fits) {
            return GONE + OUTSIDE;
        }
        int was = line.way[k];
        line.way[k] = v;
        return was;
    }

    public int speak(int far, int voice) {
        if (!within(far, -FAR_TOP, FAR_TOP) || !within(voice, -NEAR_TOP, NEAR_TOP)) {
            return GONE + OUTSIDE;
        }
        return line.hearSpeech(far, voice);
    }

    public int run(int seed, int n, int loud) {
        if (!startsRun(seed, loud) || !within(n, 1, RUN_MOST)) {
            return OUTSIDE;
        }
        int z = seed;
        int sum = 0;
        for (int i = 0; i < n; i++) {
            z = nextSeed(z);
            line.hearSpeech(centred(z, loud), 0);
            sum += Math.abs(line.told[LEFT_AT]);
        }
        return sum;
    }

    public int learnt(int seed, int loud, int limit) {
        if (!startsRun(seed, loud) || !within(limit, 0, LIMIT_MOST)) {
            return OUTSIDE;
        }
        trial.copyFrom(line);
        int z = seed;
        int calm = 0;
        for (int n = 1; n <= LEARNT_MOST; n++) {
            z = nextSeed(z);
            trial.hearSpeech(centred(z, loud), 0);
            calm = Math.abs(trial.told[LEFT_AT]) <= limit ? calm + 1 : 0;
            if (calm >= LEARNT_CALM) {
                return n;
            }
        }
        return NONE;
    }

    // ---- 3 where, how much

    public int likeness(int d) {
        return within(d, 0, DELAY_MOST) ? line.likenessOf(d) : GONE + OUTSIDE;
    }

    public int seek() {
        int best = 0;
        int most = 0;
        for (int d = 0; d <= DELAY_MOST; d++) {
            int size = Math.abs(line.likenessOf(d));
            if (size > most) {
                most = size;
                best = d;
            }
        }
        if (most == 0) {
            return STATE;
        }
        line.startAnew(best);
        return best;
    }

    public int gain(int part) {
        if (!within(part, 0, 1)) {
            return OUTSIDE;
        }
        int upper = line.nearSquares();
        int lower = line.outSquares();
        int shared = greatestDivisor(upper, lower);
        if (lower == 0 || shared == 0) {
            return STATE;
        }
        return (part == 0 ? upper : lower) / shared;
    }

    public int began(int i, int what) {
        if (!within(what, 0, 1)) {
            return OUTSIDE;
        }
        return line.beginning(i, what == 0 ? TALK_MARK : TONE_MARK);
    }

    // ---- 4 images

    public int image(int k) {
        if (!within(k, 0, 1)) {
            return OUTSIDE;
        }
        images[k].copyFrom(line);
        kept |= 1 << k;
        return 1;
    }

    public int restore(int k) {
        if (!within(k, 0, 1)) {
            return OUTSIDE;
        }
        if ((kept & (1 << k)) == 0) {
            return STATE;
        }
        line.copyFrom(images[k]);
        return 1;
    }

    public int count(int what) {
        if (within(what, COUNT_RULES, COUNT_RULES + DELAY)) {
            return line.rules[what - COUNT_RULES];
        }
        switch (what) {
            case 0: return line.ticks;
            case 1: return line.hold;
            case 2: return line.seed;
            case 3: return line.tapSizes();
            case 4: return line.way[LAG];
            case 5: return kept;
            default: return OUTSIDE;
        }
    }

    // ---- helpers

    private static boolean within(int v, int least, int most) {
        return least <= v && v <= most;
    }

    private static int limited(int v, int least, int most) {
        return Math.max(least, Math.min(most, v));
    }

    private static boolean startsRun(int seed, int loud) {
        return within(seed, 0, SEED_RANGE - 1) && within(loud, 0, FAR_TOP);
    }

    private static int nextSeed(int z) {
        return (75 * z + 74) % SEED_RANGE;
    }

    /** A number of -top to top; the divisor is odd, so that it is never 0. */
    private static int centred(int z, int top) {
        return z % (2 * top + 1) - top;
    }

    private static int greatestDivisor(int a, int b) {
        int x = a;
        int y = b;
        // Ints need fewer than 48 rounds; the counter makes the end plain.
        for (int round = 0; round < 64 && y != 0; round++) {
            int rest = x % y;
            x = y;
            y = rest;
        }
        return x;
    }

    /** All that an IMAGE keeps: the RULES, the TAPS, the way of an ECHO and what came and went. */
    static final class Line {
        final int[] rules = RULES_AT_FIRST.clone();
        final int[] taps = new int[TAPS];
        final int[] way = new int[TAPS + 1];
        final int[] fars = new int[RING + 1];
        final int[] nears = new int[RING + 1];
        final int[] outs = new int[RING + 1];
        final int[] marks = new int[MARK_RING + 1];
        final int[] told = new int[TOLD];
        int ticks;
        int hold;
        int seed;

        void copyFrom(Line other) {
            System.arraycopy(other.rules, 0, rules, 0, rules.length);
            System.arraycopy(other.taps, 0, taps, 0, taps.length);
            System.arraycopy(other.way, 0, way, 0, way.length);
            System.arraycopy(other.fars, 0, fars, 0, fars.length);
            System.arraycopy(other.nears, 0, nears, 0, nears.length);
            System.arraycopy(other.outs, 0, outs, 0, outs.length);
            System.arraycopy(other.marks, 0, marks, 0, marks.length);
            System.arraycopy(other.told, 0, told, 0, told.length);
            ticks = other.ticks;
            hold = other.hold;
            seed = other.seed;
        }

        int farAgo(int i) {
            return fars[(ticks - i) & RING];
        }

        int nearAgo(int i) {
            return nears[(ticks - i) & RING];
        }

        int outAgo(int i) {
            return outs[(ticks - i) & RING];
        }

        /** A TICK comes in two halves, because an ECHO needs this TICK's FAR ahead of its NEAR. */
        void takeFar(int far) {
            ticks++;
            fars[ticks & RING] = far;
        }

        /** The other half of a TICK, (a) to (e) of the document: OUT. */
        int takeNear(int near) {
            nears[ticks & RING] = near;
            int estimate = estimated();
            int left = near - estimate;
            int loud = loudest();
            boolean talk = 2 * Math.abs(near) > loud;
            holdBy(talk);
            int tone = tonePeriod();
            int power = powerSeen();
            boolean learns = hold == 0 && tone == 0 && power > 0;
            if (learns) {
                learn(left, power);
            }
            int out = tone > 0 ? near : softened(left);
            outs[ticks & RING] = out;
            marks[ticks & MARK_RING] = (talk ? TALK_MARK : 0) | (tone > 0 ? TONE_MARK : 0);
            told[ESTIMATE_AT] = estimate;
            told[LEFT_AT] = left;
            told[OUT_AT] = out;
            told[LOUD_AT] = loud;
            told[POWER_AT] = power;
            told[TALK_AT] = talk ? 1 : 0;
            told[TONE_AT] = tone;
            told[LEARNED_AT] = learns ? 1 : 0;
            return out;
        }

        int hearSpeech(int far, int voice) {
            takeFar(far);
            return takeNear(limited(echo() + voice, -NEAR_TOP, NEAR_TOP));
        }

        int echo() {
            int sum = 0;
            for (int k = 0; k < TAPS; k++) {
                sum += way[k] * farAgo(k + way[LAG]);
            }
            return sum / UNIT;
        }

        int seenBy(int k) {
            return farAgo(k + rules[DELAY]);
        }

        int estimated() {
            int sum = 0;
            for (int k = 0; k < TAPS; k++) {
                sum += taps[k] * seenBy(k);
            }
            return sum / UNIT;
        }

        int loudest() {
            int most = 0;
            for (int i = 0; i < LOUD_SPAN; i++) {
                most = Math.max(most, Math.abs(farAgo(i)));
            }
            return most;
        }

        void holdBy(boolean talk) {
            if (talk) {
                hold = rules[HANG];
            } else if (hold > 0) {
                hold--;
            }
        }

        /** The least p by which it is a TONE; 0: it is none. */
        int tonePeriod() {
            if (silent()) {
                return 0;
            }
            for (int p = 1; p <= TONE_MOST; p++) {
                if (repeatsBy(p)) {
                    return p;
                }
            }
            return 0;
        }

        boolean silent() {
            for (int i = 0; i < TONE_SPAN; i++) {
                if (farAgo(i) != 0) {
                    return false;
                }
            }
            return true;
        }

        boolean repeatsBy(int p) {
            for (int i = 0; i + p < TONE_SPAN; i++) {
                if (farAgo(i) != farAgo(i + p)) {
                    return false;
                }
            }
            return true;
        }

        int powerSeen() {
            int sum = 0;
            for (int k = 0; k < TAPS; k++) {
                int seen = seenBy(k);
                sum += seen * seen;
            }
            return sum;
        }

        void learn(int left, int power) {
            if (power <= 0) {
                return;
            }
            // STEP times LEFT times what is SEEN goes beyond an int.
            long push = (long) rules[STEP] * left;
            for (int k = 0; k < TAPS; k++) {
                long more = push * seenBy(k) / power;
                taps[k] = (int) Math.max(TAP_LEAST, Math.min(TAP_MOST, taps[k] + more));
            }
        }

        /** OUT where it is no TONE. */
        int softened(int left) {
            if (Math.abs(left) >= rules[CLIP]) {
                return limited(left, -NEAR_TOP, NEAR_TOP);
            }
            seed = nextSeed(seed);
            return centred(seed, rules[HISS]);
        }

        int likenessOf(int d) {
            int sum = 0;
            for (int i = 0; i < LIKE_SPAN; i++) {
                sum += nearAgo(i) * farAgo(i + d);
            }
            return sum;
        }

        void startAnew(int delay) {
            rules[DELAY] = delay;
            for (int k = 0; k < TAPS; k++) {
                taps[k] = 0;
            }
        }

        // Ahead of TICK 1 the rings hold 0, so that fewer TICKS than the span need no care.
        int nearSquares() {
            int sum = 0;
            for (int i = 0; i < GAIN_SPAN; i++) {
                sum += nearAgo(i) * nearAgo(i);
            }
            return sum;
        }

        int outSquares() {
            int sum = 0;
            for (int i = 0; i < GAIN_SPAN; i++) {
                sum += outAgo(i) * outAgo(i);
            }
            return sum;
        }

        /** The i-th TICK at which a mark begins; i = -1: how many there are. */
        int beginning(int i, int mark) {
            int found = 0;
            for (int back = BEGAN_SPAN - 1; back >= 0; back--) {
                if (back < ticks && beginsAt(ticks - back, mark)) {
                    if (found == i) {
                        return ticks - back;
                    }
                    found++;
                }
            }
            return i == -1 ? found : NONE;
        }

        boolean beginsAt(int tick, int mark) {
            return (marks[tick & MARK_RING] & mark) != 0 && (marks[(tick - 1) & MARK_RING] & mark) == 0;
        }

        int tapSizes() {
            int sum = 0;
            for (int k = 0; k < TAPS; k++) {
                sum += Math.abs(taps[k]);
            }
            return sum;
        }
    }
}
