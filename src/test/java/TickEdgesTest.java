/**
 * The edges of block 1 and of promises 2 to 6, a test for each sentence of the document that names one.
 * What is refused is in RefusalsTest.
 */
public final class TickEdgesTest {
    private static final int GONE_STATE = -1000000003, GONE_NONE = -1000000006;
    private static final Due DUE = new Due();

    public static void main(String[] args) {
        farAndNearAtTheirEnds();
        aheadOfTick1FarWas0();
        aheadOfTick1NoTone();
        rulesAtTheirEnds();
        ruleHoldsFromTheNextTickOn();
        tapJustInsideAndJustBeyond();
        tapsStayAtTheirEnds();
        holdGoesFrom20To0();
        holdBecomesHangFromAboveAndBelow();
        seedIs0AtFirstAndLeftOverBy65537();
        seenByDelayAtItsEnds();
        estimateIsAddedThenCutTowards0();
        learningIsCutTowards0();
        loudIsOf24Ticks();
        loudStaysPassed();
        talkIsAboveNotAlike();
        talkGoesByNear();
        toneNeeds16();
        toneIsBrokenByOneOfThe16();
        toneByTwoOf16();
        toneTellsTheLeastP();
        noToneOf0();
        learnsOnlyIfAllThreeHold();
        learnedWithoutAChange();
        clipIsBelowNotAlike();
        clipOf0MakesNoNoise();
        hissAtItsEnds();
        noiseThenOnly();
        outIsLimitedLeftIsNot();
        toneGoesAheadOfClip();
        lastWithoutATick();
        lastIsOfTheLastTickAlone();
        agoJustThereAndJustNot();
        DUE.end("TickEdgesTest");
    }

    /** STEP 1024 and HANG 0: TAP 0 becomes 1024 times NEAR by FAR at TICK 1. */
    private static Counted quickLearner() {
        Counted x = new Counted();
        x.rule(0, 1024);
        x.rule(1, 0);
        return x;
    }

    /** TAP 0 is -1024 and stays so: ESTIMATE is FAR with the other sign. */
    private static Counted mirror() {
        Counted x = quickLearner();
        x.tick(1, -1);
        x.rule(0, 0);
        return x;
    }

    /** "At each a FAR, -1000 to 1000, and a NEAR, -2000 to 2000, come". */
    private static void farAndNearAtTheirEnds() {
        int[] fars = {-1000, 1000};
        int[] nears = {-2000, 2000};
        for (int far : fars) {
            for (int near : nears) {
                Counted x = new Counted();
                DUE.is("tick(" + far + ", " + near + ")", x.tick(far, near), near);
                DUE.is("FAR of " + far, x.ago(0, 0), far);
                DUE.is("NEAR of " + near, x.ago(0, 1), near);
                DUE.is("TICKS", x.count(0), 1);
            }
        }
    }

    /** "ahead of TICK 1 both were 0 always". */
    private static void aheadOfTick1FarWas0() {
        Counted x = quickLearner();
        x.tick(-30, 60);
        DUE.is("LOUD of TICK 1", x.last(3), 30);
        DUE.is("POWER of TICK 1", x.last(4), 900);
        DUE.is("tap(0)", x.tap(0), -2048);
        for (int k = 1; k < 8; k++) {
            DUE.is("tap(" + k + ")", x.tap(k), 0);
        }
        DUE.is("likeness(1) of TICK 1", x.likeness(1), 0);
        DUE.is("likeness(15) of TICK 1", x.likeness(15), 0);
        Counted y = new Counted();
        y.rule(4, 15);
        for (int t = 1; t <= 15; t++) {
            y.tick(10 + t, 0);
            DUE.is("POWER by DELAY 15 at TICK " + t, y.last(4), 0);
        }
        y.tick(5, 0);
        DUE.is("POWER by DELAY 15 at TICK 16", y.last(4), 121);
    }

    private static void aheadOfTick1NoTone() {
        Counted x = new Counted();
        for (int t = 1; t <= 15; t++) {
            x.tick(44, 0);
            DUE.is("44 at TICK " + t + " behind 0", x.last(6), 0);
        }
        x.tick(44, 0);
        DUE.is("44 at TICK 16", x.last(6), 1);
        Counted y = new Counted();
        for (int t = 1; t <= 15; t++) {
            y.tick(t % 2 == 1 ? 44 : 0, 0);
            DUE.is("44 and 0 at TICK " + t, y.last(6), t == 15 ? 2 : 0);
        }
    }

    /** "0 STEP, 0 to 1024 (512 at first); 1 HANG, 0 to 20 (5); 2 CLIP, 0 to 500 (0); 3 HISS, 0 to 50 (0); 4 DELAY". */
    private static void rulesAtTheirEnds() {
        int[] first = {512, 5, 0, 0, 0};
        int[] most = {1024, 20, 500, 50, 15};
        for (int r = 0; r < 5; r++) {
            Counted x = new Counted();
            DUE.is("rule(" + r + ", 0) tells the first", x.rule(r, 0), first[r]);
            DUE.is("rule " + r + " is 0", x.count(10 + r), 0);
            DUE.is("rule(" + r + ", " + most[r] + ")", x.rule(r, most[r]), 0);
            DUE.is("rule " + r + " is its most", x.count(10 + r), most[r]);
            DUE.is("rule(" + r + ", " + (most[r] + 1) + ")", x.rule(r, most[r] + 1), -2);
            DUE.is("rule(" + r + ", -1)", x.rule(r, -1), -2);
            DUE.is("rule(" + r + ", the same)", x.rule(r, most[r]), most[r]);
            for (int other = 0; other < 5; other++) {
                if (other != r) {
                    DUE.is("rule " + other + " beside " + r, x.count(10 + other), first[other]);
                }
            }
        }
    }

    private static void ruleHoldsFromTheNextTickOn() {
        Counted x = new Counted();
        x.tick(1000, 300);
        DUE.is("tap(0) by STEP 512", x.tap(0), 153);
        x.rule(0, 1024);
        DUE.is("tap(0) by a new STEP alone", x.tap(0), 153);
        DUE.is("OUT by a new STEP alone", x.last(2), 300);
    }

    /** "TAPS 0 to 7 are whole numbers, -4096 to 4095"; "what is below -4096, above 4095 then is that". */
    private static void tapJustInsideAndJustBeyond() {
        // STEP, FAR, NEAR, TAP 0: 1023 * 1201 / 300 = 4095.4; 1024 * 1600 / 400 = 4096; 1023 * 801 / 200 = 4097.1
        int[][] rows = {{1023, 300, 1201, 4095}, {1024, 400, 1600, 4095}, {1023, 200, 801, 4095},
            {1023, 300, -1201, -4095}, {1024, 400, -1600, -4096}, {1023, 200, -801, -4096},
            {1023, -300, 1201, -4095}, {1024, -400, 1600, -4096}, {1023, -200, 801, -4096},
            {1024, 1, 2000, 4095}, {1024, 1, -2000, -4096}};
        for (int[] r : rows) {
            Counted x = quickLearner();
            x.rule(0, r[0]);
            x.tick(r[1], r[2]);
            DUE.is("tap(0) by " + r[0] + ", " + r[1] + ", " + r[2], x.tap(0), r[3]);
            DUE.is("its size", x.count(3), Math.abs(r[3]));
        }
    }

    private static void tapsStayAtTheirEnds() {
        Counted x = quickLearner();
        x.tick(1, 2000);
        x.tick(0, 2000);
        x.tick(0, 2000);
        DUE.is("tap(0) stays", x.tap(0), 4095);
        DUE.is("tap(1) at its end", x.tap(1), 4095);
        DUE.is("tap(2) at its end", x.tap(2), 4095);
        // ESTIMATE is 4095 / 1024 = 3, LEFT is 2 - 3.
        x.tick(0, 2);
        DUE.is("ESTIMATE by TAP 3", x.last(0), 0);
        x.tick(-1, 2);
        DUE.is("ESTIMATE by 4095", x.last(0), -3);
    }

    /** "HOLD is 0 to 20 (0 at first)"; "without it HOLD becomes 1 less, if it is above 0". */
    private static void holdGoesFrom20To0() {
        Counted x = new Counted();
        DUE.is("HOLD at first", x.count(1), 0);
        x.tick(0, 0);
        DUE.is("HOLD stays 0", x.count(1), 0);
        x.rule(1, 20);
        x.tick(500, 2000);
        DUE.is("HOLD by TALK", x.count(1), 20);
        for (int i = 1; i <= 20; i++) {
            x.tick(500 + i, 0);
            DUE.is("HOLD " + i + " behind", x.count(1), 20 - i);
            DUE.is("learned " + i + " behind", x.last(7), i == 20 ? 1 : 0);
        }
        x.tick(2, 0);
        DUE.is("HOLD 21 behind", x.count(1), 0);
        DUE.is("learned 21 behind", x.last(7), 1);
    }

    /** "By TALK HOLD becomes HANG". */
    private static void holdBecomesHangFromAboveAndBelow() {
        Counted x = new Counted();
        x.rule(1, 20);
        x.tick(0, 1);
        x.rule(1, 3);
        DUE.is("HOLD by a lower HANG alone", x.count(1), 20);
        x.tick(0, 1);
        DUE.is("HOLD from 20 by HANG 3", x.count(1), 3);
        x.rule(1, 4);
        x.tick(0, 1);
        DUE.is("HOLD from 3 by HANG 4", x.count(1), 4);
        x.rule(1, 1);
        x.tick(7, 2000);
        DUE.is("HOLD by HANG 1", x.count(1), 1);
        DUE.is("learned by HOLD 1", x.last(7), 0);
        x.rule(1, 0);
        x.tick(8, 2000);
        DUE.is("HOLD by HANG 0", x.count(1), 0);
        DUE.is("learned by HANG 0", x.last(7), 1);
    }

    /** "HISS is drawn from a SEED, 0 at first"; "75 times itself, and 74, added, left over by 65537". */
    private static void seedIs0AtFirstAndLeftOverBy65537() {
        Counted x = new Counted();
        x.rule(2, 1);
        int[] seeds = {0, 74, 5624, 28652, 51790};
        for (int i = 0; i < seeds.length; i++) {
            DUE.is("SEED behind " + i + " NOISES", x.count(2), seeds[i]);
            x.tick(0, 0);
        }
    }

    /** "SEEN by TAP k: FAR of k and DELAY, added, TICKS ago (0: of this TICK)". */
    private static void seenByDelayAtItsEnds() {
        int[] delays = {0, 15};
        for (int delay : delays) {
            for (int k = 0; k < 8; k += 7) {
                Counted x = quickLearner();
                x.rule(4, delay);
                for (int i = 0; i < delay + k; i++) {
                    x.tick(i == 0 ? 200 : 0, 0);
                }
                x.tick(delay + k == 0 ? 200 : 0, 150);
                DUE.is("tap(" + k + ") by DELAY " + delay, x.tap(k), 768);
                DUE.is("TAPS by DELAY " + delay, x.count(3), 768);
                x.tick(0, 0);
                x.tick(0, 0);
                DUE.is("POWER then", x.last(4), k == 7 ? 0 : 40000);
            }
        }
    }

    /** "each TAP times what is SEEN by it, all added, by 1024"; "Quotients are cut towards 0". */
    private static void estimateIsAddedThenCutTowards0() {
        // TAPS 0 and 1 become 512 each: each by itself is cut to 0, both together make 1.
        Counted x = quickLearner();
        x.tick(2, 1);
        DUE.is("tap(0)", x.tap(0), 512);
        x.tick(0, 1);
        DUE.is("tap(1)", x.tap(1), 512);
        x.rule(0, 0);
        x.tick(1, 0);
        DUE.is("512 by 1024", x.last(0), 0);
        x.tick(1, 0);
        DUE.is("512 and 512 by 1024", x.last(0), 1);
        x.tick(-1, 0);
        DUE.is("-512 and 512 by 1024", x.last(0), 0);
        x.tick(-1, 0);
        DUE.is("-1024 by 1024", x.last(0), -1);
        x.tick(-2, 0);
        DUE.is("-1536 by 1024", x.last(0), -1);
        DUE.is("LEFT by it", x.last(1), 1);
        x.tick(0, 0);
        x.tick(-1, 0);
        DUE.is("-512 by 1024", x.last(0), 0);
    }

    private static void learningIsCutTowards0() {
        int[][] rows = {{1000, 300, 153}, {1000, -300, -153}, {-1000, 300, -153}, {-1000, -300, 153},
            {1000, 1, 0}, {1000, -1, 0}};
        for (int[] r : rows) {
            Counted x = new Counted();
            x.tick(r[0], r[1]);
            DUE.is("tap(0) by " + r[0] + ", " + r[1], x.tap(0), r[2]);
        }
    }

    /** "LOUD: the greatest size of FAR of this TICK and the 23 ahead of it". */
    private static void loudIsOf24Ticks() {
        int[] fars = {1000, -1000};
        for (int far : fars) {
            Counted x = new Counted();
            x.tick(far, 0);
            DUE.is("LOUD of this TICK", x.last(3), 1000);
            for (int i = 1; i <= 23; i++) {
                x.tick(i == 5 ? -900 : 1, 0);
            }
            DUE.is("LOUD, 23 ahead", x.last(3), 1000);
            x.tick(1, 0);
            DUE.is("LOUD, 24 ahead", x.last(3), 900);
            for (int i = 0; i < 4; i++) {
                x.tick(1, 0);
            }
            DUE.is("LOUD of -900, 23 ahead", x.last(3), 900);
            x.tick(1, 0);
            DUE.is("LOUD of -900, 24 ahead", x.last(3), 1);
        }
    }

    private static void loudStaysPassed() {
        Counted x = new Counted();
        x.tick(1000, 0);
        for (int i = 1; i <= 200; i++) {
            x.tick(0, 0);
            DUE.is("LOUD of 1000, " + i + " ahead", x.last(3), i <= 23 ? 1000 : 0);
        }
    }

    /** "It is TALK, if twice the size of NEAR is above LOUD". */
    private static void talkIsAboveNotAlike() {
        int[][] rows = {{1000, 500, 0}, {1000, 501, 1}, {1000, -500, 0}, {1000, -501, 1}, {-1000, 500, 0},
            {-1000, 501, 1}, {999, 499, 0}, {999, 500, 1}, {999, -499, 0}, {999, -500, 1}, {0, 0, 0}, {0, 1, 1},
            {0, -1, 1}, {1, 0, 0}, {1, 1, 1}, {1000, 2000, 1}, {1000, -2000, 1}};
        for (int[] r : rows) {
            Counted x = new Counted();
            x.tick(r[0], r[1]);
            DUE.is("TALK of " + r[1] + " by " + r[0], x.last(5), r[2]);
            DUE.is("HOLD of " + r[1] + " by " + r[0], x.count(1), 5 * r[2]);
        }
        Counted y = new Counted();
        y.tick(1000, 0);
        for (int i = 0; i < 23; i++) {
            y.tick(0, 500);
            DUE.is("TALK of 500 by 1000 of " + (i + 1) + " ahead", y.last(5), 0);
        }
        y.tick(0, 500);
        DUE.is("TALK of 500 by 1000 of 24 ahead", y.last(5), 1);
    }

    /** Neither LEFT nor OUT makes TALK. */
    private static void talkGoesByNear() {
        Counted x = mirror();
        x.tick(100, 50);
        DUE.is("LEFT", x.last(1), 150);
        DUE.is("TALK of NEAR 50, LEFT 150", x.last(5), 0);
        x.tick(100, -60);
        DUE.is("LEFT", x.last(1), 40);
        DUE.is("TALK of NEAR -60, LEFT 40", x.last(5), 1);
    }

    /** "of the last 16 FARS (this TICK's is the last one of them) each but the first p of them is the same". */
    private static void toneNeeds16() {
        for (int p = 1; p <= 10; p++) {
            Counted x = new Counted();
            x.tick(999, 0);
            for (int t = 2; t <= 17; t++) {
                x.tick(10 + t % p, 0);
                DUE.is("period " + p + " at TICK " + t, x.last(6), t == 17 && p <= 8 ? p : 0);
            }
            DUE.is("beginnings of period " + p, x.began(-1, 1), p <= 8 ? 1 : 0);
        }
    }

    private static void toneIsBrokenByOneOfThe16() {
        for (int p = 1; p <= 8; p++) {
            Counted x = new Counted();
            for (int t = 1; t <= 20; t++) {
                x.tick(10 + t % p, 0);
            }
            DUE.is("period " + p, x.last(6), p);
            x.tick(-999, 0);
            DUE.is("period " + p + " broken", x.last(6), 0);
            for (int t = 22; t <= 36; t++) {
                x.tick(10 + t % p, 0);
                DUE.is("period " + p + " broken, at TICK " + t, x.last(6), 0);
            }
            x.tick(10 + 37 % p, 0);
            DUE.is("period " + p + " again, the other just out of 16", x.last(6), p);
            DUE.is("beginnings", x.began(-1, 1), 2);
            DUE.is("the second one", x.began(1, 1), 37);
        }
    }

    /** "and one of the 16 at least is not 0": by p = 8 two of them can be all that is not 0. */
    private static void toneByTwoOf16() {
        Counted x = new Counted();
        for (int t = 1; t <= 40; t++) {
            x.tick(t == 1 || t == 9 ? -5 : 0, 0);
            DUE.is("-5 at TICKS 1 and 9, at " + t, x.last(6), t >= 9 && t <= 16 ? 8 : 0);
        }
        Counted y = new Counted();
        for (int t = 1; t <= 30; t++) {
            y.tick(t == 1 || t == 10 ? -5 : 0, 0);
            DUE.is("-5 at TICKS 1 and 10, at " + t, y.last(6), 0);
        }
    }

    /** "the least p by which it was a TONE (6; 0: it was none)". */
    private static void toneTellsTheLeastP() {
        int[][] patterns = {{7}, {7, -7}, {7, 7, -7}, {7, 0, 0}, {7, 7, -7, -7}, {1, 2, 1, 2, 3}, {0, 0, 0, 0, 0, 1},
            {3, 3, 3, 3, 3, 3, 4}, {3, -3, 3, -3, 3, -3, 3, 4}};
        for (int[] pattern : patterns) {
            Counted x = new Counted();
            for (int t = 0; t < 33; t++) {
                x.tick(pattern[t % pattern.length], 0);
            }
            DUE.is("least p of a pattern of " + pattern.length, x.last(6), pattern.length);
        }
    }

    private static void noToneOf0() {
        Counted x = new Counted();
        for (int t = 1; t <= 60; t++) {
            x.tick(0, 0);
            DUE.is("TONE of 0 at TICK " + t, x.last(6), 0);
        }
        for (int t = 1; t <= 17; t++) {
            x.tick(3, 0);
            DUE.is("TONE of 3 behind 0, " + t, x.last(6), t >= 16 ? 1 : 0);
        }
        for (int t = 1; t <= 17; t++) {
            x.tick(0, 0);
            DUE.is("TONE of 0 behind 3, " + t, x.last(6), 0);
        }
    }

    /** "(d) If HOLD is 0, it is no TONE, and POWER ... is above 0". */
    private static void learnsOnlyIfAllThreeHold() {
        Counted held = new Counted();
        held.rule(1, 1);
        held.tick(100, 51);
        DUE.is("learned by HOLD 1", held.last(7), 0);
        DUE.is("TAPS by HOLD 1", held.count(3), 0);
        held.tick(100, 50);
        DUE.is("learned by HOLD 0", held.last(7), 1);
        DUE.is("tap(0) by HOLD 0, 512 * 50 * 100 / 20000", held.tap(0), 128);
        Counted tone = new Counted();
        tone.rule(0, 0);
        for (int t = 1; t <= 15; t++) {
            tone.tick(100, 0);
        }
        tone.rule(0, 1024);
        tone.tick(100, 50);
        DUE.is("learned by a TONE", tone.last(7), 0);
        DUE.is("TAPS by a TONE", tone.count(3), 0);
        DUE.is("POWER by a TONE", tone.last(4), 80000);
        Counted blind = new Counted();
        blind.rule(4, 1);
        blind.tick(100, 50);
        DUE.is("POWER of nothing SEEN", blind.last(4), 0);
        DUE.is("learned without POWER", blind.last(7), 0);
        blind.tick(1, 50);
        DUE.is("learned by POWER", blind.last(7), 1);
        DUE.is("tap(0) by POWER", blind.tap(0), 256);
        Counted least = new Counted();
        least.tick(1, 0);
        DUE.is("the least POWER", least.last(4), 1);
        DUE.is("learned by it", least.last(7), 1);
    }

    /** "whether TAPS learned by (d) (7: 1, 0; also if none of them changed)". */
    private static void learnedWithoutAChange() {
        Counted still = new Counted();
        still.tick(1000, 0);
        DUE.is("learned by LEFT 0", still.last(7), 1);
        DUE.is("TAPS by LEFT 0", still.count(3), 0);
        Counted stepless = new Counted();
        stepless.rule(0, 0);
        stepless.tick(1000, 400);
        DUE.is("learned by STEP 0", stepless.last(7), 1);
        DUE.is("TAPS by STEP 0", stepless.count(3), 0);
        Counted full = quickLearner();
        full.tick(1, 2000);
        full.rule(4, 1);
        full.tick(0, 2000);
        DUE.is("ESTIMATE of 4095 by 1024", full.last(0), 3);
        DUE.is("learned at the end", full.last(7), 1);
        DUE.is("TAPS at the end", full.count(3), 4095);
    }

    /** "if the size of LEFT is below CLIP: NOISE; else LEFT". */
    private static void clipIsBelowNotAlike() {
        int[][] rows = {{500, 499, 1}, {500, -499, 1}, {500, 500, 0}, {500, -500, 0}, {1, 0, 1}, {1, 1, 0}, {1, -1, 0},
            {2, 1, 1}, {2, -1, 1}, {2, 2, 0}, {2, -2, 0}, {500, 0, 1}};
        for (int[] r : rows) {
            Counted x = new Counted();
            x.rule(2, r[0]);
            x.rule(3, 50);
            boolean noise = r[2] == 1;
            DUE.is("OUT of " + r[1] + " by CLIP " + r[0], x.tick(0, r[1]), noise ? 24 : r[1]);
            DUE.is("SEED of " + r[1] + " by CLIP " + r[0], x.count(2), noise ? 74 : 0);
            DUE.is("LEFT of " + r[1] + " by CLIP " + r[0], x.last(1), r[1]);
        }
    }

    private static void clipOf0MakesNoNoise() {
        Counted x = new Counted();
        x.rule(3, 50);
        for (int near = -2; near <= 2; near++) {
            DUE.is("OUT of " + near + " by CLIP 0", x.tick(0, near), near);
        }
        DUE.is("SEED by CLIP 0", x.count(2), 0);
    }

    /** "NOISE is that left over by twice HISS and 1, added, less HISS". */
    private static void hissAtItsEnds() {
        int[] hisses = {0, 1, 49, 50};
        for (int hiss : hisses) {
            Counted x = new Counted();
            x.rule(2, 500);
            x.rule(3, hiss);
            int seed = 0;
            boolean least = false;
            boolean most = false;
            for (int i = 0; i < 480; i++) {
                seed = (75 * seed + 74) % 65537;
                int want = seed % (2 * hiss + 1) - hiss;
                least |= want == -hiss;
                most |= want == hiss;
                DUE.is("NOISE " + i + " by HISS " + hiss, x.tick(0, 0), want);
            }
            DUE.is("SEED at last by HISS " + hiss, x.count(2), seed);
            DUE.holds("HISS " + hiss + " came to both ends", least && most);
        }
    }

    /** "For NOISE (then only) the SEED becomes". */
    private static void noiseThenOnly() {
        Counted x = new Counted();
        x.rule(2, 10);
        x.rule(3, 5);
        x.tick(0, 9);
        DUE.is("SEED by NOISE", x.count(2), 74);
        x.tick(0, 10);
        DUE.is("SEED by LEFT", x.count(2), 74);
        x.learnt(3, 1000, 0);
        x.likeness(0);
        x.seek();
        DUE.is("SEED by what is only asked", x.count(2), 74);
        x.tick(0, -9);
        DUE.is("SEED by NOISE", x.count(2), 5624);
        x.rule(2, 0);
        x.run(3, 60, 1000);
        DUE.is("SEED by a RUN without NOISE", x.count(2), 5624);
    }

    /** "else LEFT (what is below -2000, above 2000 is that)". */
    private static void outIsLimitedLeftIsNot() {
        int[][] rows = {{1, 1998, 1999}, {1, 1999, 2000}, {1, 2000, 2001}, {-1, -1998, -1999}, {-1, -1999, -2000},
            {-1, -2000, -2001}, {1000, 2000, 3000}, {-1000, -2000, -3000}, {-1, 2000, 1999}};
        for (int[] r : rows) {
            Counted x = mirror();
            int out = Math.max(-2000, Math.min(2000, r[2]));
            DUE.is("OUT of LEFT " + r[2], x.tick(r[0], r[1]), out);
            DUE.is("LEFT told", x.last(1), r[2]);
            DUE.is("OUT told", x.last(2), out);
            DUE.is("OUT told by ago", x.ago(0, 2), out);
        }
    }

    /** "OUT: by a TONE NEAR; else". */
    private static void toneGoesAheadOfClip() {
        Counted x = mirror();
        for (int t = 1; t <= 15; t++) {
            x.tick(600, 0);
        }
        x.rule(2, 500);
        x.rule(3, 50);
        DUE.is("OUT by a TONE, little LEFT", x.tick(600, -599), -599);
        DUE.is("LEFT of it", x.last(1), 1);
        DUE.is("OUT by a TONE, much LEFT", x.tick(600, 2000), 2000);
        DUE.is("LEFT of it", x.last(1), 2600);
        DUE.is("OUT by a TONE of NEAR 0", x.tick(600, 0), 0);
        DUE.is("SEED by a TONE", x.count(2), 0);
        DUE.is("OUT without a TONE", x.tick(601, -600), 24);
    }

    /** "STATE: there was none (GONE and these)". */
    private static void lastWithoutATick() {
        Counted x = new Counted();
        x.rule(0, 3);
        x.part(0, 3);
        x.learnt(1, 1000, 5);
        x.tick(1001, 0);
        x.speak(0, 2001);
        x.run(0, 0, 0);
        for (int what = 0; what < 8; what++) {
            DUE.is("last(" + what + ") without a TICK", x.last(what), GONE_STATE);
        }
        x.tick(0, 0);
        for (int what = 0; what < 8; what++) {
            DUE.is("last(" + what + ") of a TICK of 0", x.last(what), 0);
        }
    }

    private static void lastIsOfTheLastTickAlone() {
        Counted x = new Counted();
        x.tick(-100, 60);
        int[] want = {0, 60, 60, 100, 10000, 1, 0, 0};
        for (int what = 0; what < 8; what++) {
            DUE.is("last(" + what + ")", x.last(what), want[what]);
        }
        x.rule(1, 20);
        x.rule(2, 500);
        x.rule(4, 15);
        x.seek();
        x.tick(0, -2001);
        for (int what = 0; what < 8; what++) {
            DUE.is("last(" + what + ") behind new RULES", x.last(what), want[what]);
        }
    }

    /** "of i TICKS ago, 0 to 31 (0: the last one); NONE: there were not so many". */
    private static void agoJustThereAndJustNot() {
        Counted x = new Counted();
        for (int t = 1; t <= 32; t++) {
            for (int what = 0; what < 3; what++) {
                DUE.is("ago(" + (t - 1) + ", " + what + ") ahead of TICK " + t, x.ago(t - 1, what), GONE_NONE);
            }
            x.tick(200 + t, -t);
            DUE.is("FAR of TICK 1 at " + t, x.ago(t - 1, 0), 201);
            DUE.is("NEAR of TICK 1 at " + t, x.ago(t - 1, 1), -1);
            DUE.is("OUT of TICK 1 at " + t, x.ago(t - 1, 2), -1);
            DUE.is("FAR of the last at " + t, x.ago(0, 0), 200 + t);
        }
        x.tick(0, 5);
        DUE.is("the oldest of 33", x.ago(31, 1), -2);
        DUE.is("the last of 33", x.ago(0, 1), 5);
        DUE.is("beyond 31", x.ago(32, 1), -1000000002);
    }
}
