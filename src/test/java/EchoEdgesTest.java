/**
 * The edges of block 2 and of promises 7 to 10, a test for each sentence of the document that names one.
 * What is refused is in RefusalsTest.
 */
public final class EchoEdgesTest {
    private static final int NONE = -6;
    /** 75 times this and 74, added, leaves this over by 65537: a RUN from it has the same FAR at all TICKS. */
    private static final int STILL_SEED = 65536;
    /** What that FAR is by LOUD 1000: 65536 % 2001 - 1000. */
    private static final int STILL_FAR = 504;
    private static final Due DUE = new Due();

    public static void main(String[] args) {
        partsAtTheirEnds();
        lagAtItsEnds();
        echoIsAddedThenCutTowards0();
        echoByPartsAtTheirEnds();
        echoOfThisFarAndOf22Ago();
        aheadOfTick1NoEcho();
        voiceAtItsEnds();
        nearJustInsideAndJustBeyond();
        greatestEcho();
        wayHoldsFromTheNextTickOn();
        runAtItsEnds();
        runFarsAtTheirEnds();
        runLoudOf0();
        runBeginsFromItsSeed();
        runAddsSizesOfLeft();
        runIntoATone();
        learntLimitAtItsEnds();
        learntIsAtMostLimit();
        learntCountsFromItsRun();
        learntIsBrokenByOneOf8();
        learntEndsAt200();
        learntIsFromNowOn();
        learntChangesNothing();
        DUE.end("EchoEdgesTest");
    }

    /** STEP 0: TAPS stay 0, so that LEFT is NEAR. */
    private static Counted deaf() {
        Counted x = new Counted();
        x.rule(0, 0);
        return x;
    }

    private static int seedAhead(int next) {
        for (int z = 0; z <= 65536; z++) {
            if ((75 * z + 74) % 65537 == next) {
                return z;
            }
        }
        throw new IllegalArgumentException("no seed ahead of " + next);
    }

    /** "PARTS 0 to 7, -1024 to 1023 (0 at first)". */
    private static void partsAtTheirEnds() {
        for (int k = 0; k < 8; k++) {
            Counted x = new Counted();
            DUE.is("part(" + k + ", -1024)", x.part(k, -1024), 0);
            DUE.is("part(" + k + ", -1025)", x.part(k, -1025), -1000000002);
            DUE.is("part(" + k + ", 1023)", x.part(k, 1023), -1024);
            DUE.is("part(" + k + ", 1024)", x.part(k, 1024), -1000000002);
            DUE.is("part(" + k + ", 0)", x.part(k, 0), 1023);
            for (int other = 0; other <= 8; other++) {
                DUE.is("part " + other + " beside " + k, x.part(other, 0), 0);
            }
        }
    }

    /** "a LAG, 0 to 15 (0 at first)"; "(k = 8: LAG)". */
    private static void lagAtItsEnds() {
        Counted x = new Counted();
        DUE.is("LAG at first", x.count(4), 0);
        DUE.is("part(8, 15)", x.part(8, 15), 0);
        DUE.is("LAG 15", x.count(4), 15);
        DUE.is("part(8, 16)", x.part(8, 16), -1000000002);
        DUE.is("part(8, -1)", x.part(8, -1), -1000000002);
        DUE.is("LAG stays", x.count(4), 15);
        DUE.is("part(8, 0)", x.part(8, 0), 15);
        DUE.is("LAG 0", x.count(4), 0);
        DUE.is("DELAY is not LAG", x.count(14), 0);
    }

    private static void echoIsAddedThenCutTowards0() {
        Counted x = deaf();
        x.part(0, 512);
        x.part(1, 512);
        int[][] rows = {{1, 0}, {1, 1}, {-1, 0}, {-1, -1}, {-2, -1}, {-1, -1}, {0, 0}, {3, 1}, {0, 1}};
        for (int[] r : rows) {
            x.speak(r[0], 0);
            DUE.is("ECHO by FAR " + r[0], x.ago(0, 1), r[1]);
        }
        x.speak(-1, 7);
        DUE.is("ECHO is cut ahead of the VOICE", x.ago(0, 1), 7);
        x.speak(0, 7);
        DUE.is("-512 by 1024 and 7", x.ago(0, 1), 7);
    }

    private static void echoByPartsAtTheirEnds() {
        int[][] rows = {{1023, 1000, 999}, {1023, -1000, -999}, {-1024, 1000, -1000}, {-1024, -1000, 1000}, {1023, 1, 0},
            {-1024, 1, -1}, {1, 1000, 0}, {-1, 1000, 0}};
        for (int[] r : rows) {
            Counted x = deaf();
            x.part(0, r[0]);
            DUE.is("OUT of PART " + r[0] + " by " + r[1], x.speak(r[1], 0), r[2]);
            DUE.is("NEAR of PART " + r[0] + " by " + r[1], x.ago(0, 1), r[2]);
        }
    }

    /** "each PART k times FAR of k and LAG, added, TICKS ago"; "(by that FAR, too)". */
    private static void echoOfThisFarAndOf22Ago() {
        Counted x = deaf();
        x.part(0, -1024);
        x.speak(300, 0);
        DUE.is("ECHO of this FAR", x.ago(0, 1), -300);
        x.speak(0, 0);
        DUE.is("ECHO of no FAR", x.ago(0, 1), 0);
        Counted y = deaf();
        y.part(7, -1024);
        y.part(8, 15);
        y.speak(300, 0);
        for (int i = 1; i <= 24; i++) {
            y.speak(0, 0);
            DUE.is("ECHO of " + i + " ago", y.ago(0, 1), i == 22 ? -300 : 0);
        }
    }

    private static void aheadOfTick1NoEcho() {
        Counted x = deaf();
        for (int k = 0; k < 8; k++) {
            x.part(k, 512);
        }
        x.part(8, 15);
        for (int t = 1; t <= 15; t++) {
            x.speak(100, 0);
            DUE.is("ECHO at TICK " + t, x.ago(0, 1), 0);
        }
        for (int t = 16; t <= 25; t++) {
            x.speak(100, 0);
            DUE.is("ECHO at TICK " + t, x.ago(0, 1), 50 * Math.min(8, t - 15));
        }
    }

    /** "Who SPEAKS, -2000 to 2000 the VOICE". */
    private static void voiceAtItsEnds() {
        int[] voices = {-2000, -1999, 0, 1999, 2000};
        int[] fars = {-1000, 0, 1000};
        for (int voice : voices) {
            for (int far : fars) {
                Counted x = deaf();
                DUE.is("speak(" + far + ", " + voice + ")", x.speak(far, voice), voice);
                DUE.is("FAR", x.ago(0, 0), far);
                DUE.is("NEAR", x.ago(0, 1), voice);
                DUE.is("TICKS", x.count(0), 1);
            }
        }
    }

    /** "NEAR is ECHO ... and a VOICE, added; what is below -2000, above 2000 is that". */
    private static void nearJustInsideAndJustBeyond() {
        int[][] rows = {{-1, 1998, 1999}, {-1, 1999, 2000}, {-1, 2000, 2000}, {-2, 2000, 2000}, {1, 2000, 1999},
            {1, -1998, -1999}, {1, -1999, -2000}, {1, -2000, -2000}, {2, -2000, -2000}, {-1, -2000, -1999},
            {-1000, 2000, 2000}, {1000, -2000, -2000}, {1000, 2000, 1000}};
        for (int[] r : rows) {
            Counted x = deaf();
            x.part(0, -1024);
            x.speak(r[0], r[1]);
            DUE.is("NEAR by speak(" + r[0] + ", " + r[1] + ")", x.ago(0, 1), r[2]);
            DUE.is("LEFT by speak(" + r[0] + ", " + r[1] + ")", x.last(1), r[2]);
        }
    }

    private static void greatestEcho() {
        Counted x = deaf();
        for (int k = 0; k < 8; k++) {
            x.part(k, -1024);
        }
        for (int i = 0; i < 8; i++) {
            x.speak(1000, 0);
            DUE.is("ECHO of " + (i + 1), x.ago(0, 1), i == 0 ? -1000 : -2000);
        }
        x.speak(1000, 2000);
        DUE.is("ECHO of -8000 and 2000", x.ago(0, 1), -2000);
        for (int i = 0; i < 8; i++) {
            x.speak(-1000, 0);
        }
        x.speak(-1000, -2000);
        DUE.is("ECHO of 8000 and -2000", x.ago(0, 1), 2000);
    }

    private static void wayHoldsFromTheNextTickOn() {
        Counted x = deaf();
        x.speak(1000, 0);
        x.part(1, 512);
        DUE.is("NEAR by a new PART alone", x.ago(0, 1), 0);
        x.tick(0, 9);
        DUE.is("tick does not SPEAK", x.ago(0, 1), 9);
        x.part(2, 256);
        x.speak(0, 0);
        DUE.is("FARS ahead of a new PART are in its ECHO", x.ago(0, 1), 250);
    }

    /** "A RUN of n TICKS, 1 to 60, from a seed, 0 to 65536, LOUD by 0 to 1000". */
    private static void runAtItsEnds() {
        int[] seeds = {0, STILL_SEED};
        int[] spans = {1, 60};
        int[] louds = {0, 1000};
        for (int seed : seeds) {
            for (int n : spans) {
                for (int loud : louds) {
                    Counted x = new Counted();
                    DUE.is("run(" + seed + ", " + n + ", " + loud + ")", x.run(seed, n, loud), 0);
                    DUE.is("its TICKS", x.count(0), n);
                    int z = seed;
                    for (int i = 0; i < n; i++) {
                        z = (75 * z + 74) % 65537;
                    }
                    DUE.is("its last FAR", x.ago(0, 0), z % (2 * loud + 1) - loud);
                    DUE.is("its NEAR", x.ago(0, 1), 0);
                }
            }
        }
    }

    private static void runFarsAtTheirEnds() {
        int[][] rows = {{0, 1000, -1000}, {2000, 1000, 1000}, {2001, 1000, -1000}, {4001, 1000, 1000}, {1000, 1000, 0},
            {0, 1, -1}, {1, 1, 0}, {2, 1, 1}, {3, 1, -1}, {65535, 1000, 503}, {74, 1000, -926}, {7, 0, 0}};
        for (int[] r : rows) {
            Counted x = new Counted();
            x.run(seedAhead(r[0]), 1, r[1]);
            DUE.is("FAR of z = " + r[0] + " by LOUD " + r[1], x.ago(0, 0), r[2]);
        }
    }

    private static void runLoudOf0() {
        Counted x = deaf();
        x.part(3, 1023);
        x.part(8, 15);
        x.speak(-1000, 0);
        DUE.is("17 TICKS of FAR 0", x.run(9, 17, 0), 0);
        DUE.is("the 18th has the ECHO", x.run(9, 1, 0), 999);
        DUE.is("NEAR of it", x.ago(0, 1), -999);
        DUE.is("60 TICKS more", x.run(9, 60, 0), 0);
        DUE.is("TICKS", x.count(0), 79);
        DUE.is("FAR", x.ago(31, 0), 0);
    }

    private static void runBeginsFromItsSeed() {
        Counted x = new Counted();
        x.run(7, 1, 900);
        // (75 * 7 + 74) % 1801 - 900
        DUE.is("FAR", x.ago(0, 0), -301);
        x.run(7, 2, 900);
        DUE.is("FAR of the first once more", x.ago(1, 0), -301);
        DUE.is("SEED is not a RUN's", x.count(2), 0);
        Counted y = new Counted();
        y.rule(2, 500);
        y.run(7, 3, 900);
        // 3 NOISES: 0, 74, 5624, 28652
        DUE.is("SEED by NOISES of a RUN", y.count(2), 28652);
        DUE.is("FAR beside NOISES", y.ago(2, 0), -301);
    }

    /** "sizes of LEFT, added": not of OUT, not with their signs. */
    private static void runAddsSizesOfLeft() {
        Counted x = deaf();
        x.part(0, 512);
        x.rule(2, 500);
        x.rule(3, 50);
        // z is 74, 5624, 28652, 51790; FAR is z % 1001 - 500: -426, 119, 124, 239; ECHO is half of it.
        DUE.is("run(0, 4, 500)", x.run(0, 4, 500), 213 + 59 + 62 + 119);
        DUE.is("NEAR of the first", x.ago(3, 1), -213);
        DUE.is("NEAR of the last", x.ago(0, 1), 119);
    }

    /** The same FAR at all TICKS: from TICK 16 on a TONE, by which LEFT is added all the same. */
    private static void runIntoATone() {
        Counted x = deaf();
        x.part(0, 512);
        DUE.is("15 TICKS", x.run(STILL_SEED, 15, 1000), 15 * 252);
        DUE.is("TONE at TICK 15", x.last(6), 0);
        DUE.is("FAR", x.ago(0, 0), STILL_FAR);
        DUE.is("the 16th", x.run(STILL_SEED, 1, 1000), 252);
        DUE.is("TONE at TICK 16", x.last(6), 1);
        DUE.is("its beginning", x.began(0, 1), 16);
        DUE.is("60 more", x.run(STILL_SEED, 60, 1000), 60 * 252);
        DUE.is("beginnings", x.began(-1, 1), 1);
    }

    /** The FAR of the RUN that follows has been there for 8 TICKS; PARTS make LEFT of a size. */
    private static Counted steady(int partA, int partB) {
        Counted x = deaf();
        x.part(0, partA);
        x.part(1, partB);
        for (int i = 0; i < 8; i++) {
            x.speak(STILL_FAR, 0);
        }
        return x;
    }

    /** "limit (0 to 999) at most". */
    private static void learntLimitAtItsEnds() {
        // 2030 * 504 / 1024 = 999.1; 2032 * 504 / 1024 = 1000.1
        Counted x = steady(1023, 1007);
        DUE.is("LEFT 999, limit 998", x.learnt(STILL_SEED, 1000, 998), NONE);
        DUE.is("LEFT 999, limit 999", x.learnt(STILL_SEED, 1000, 999), 8);
        x.run(STILL_SEED, 1, 1000);
        DUE.is("LEFT", x.last(1), 999);
        Counted y = steady(-1023, -1007);
        DUE.is("LEFT -999, limit 998", y.learnt(STILL_SEED, 1000, 998), NONE);
        DUE.is("LEFT -999, limit 999", y.learnt(STILL_SEED, 1000, 999), 8);
        Counted z = steady(1023, 1009);
        DUE.is("LEFT 1000, limit 999", z.learnt(STILL_SEED, 1000, 999), NONE);
        DUE.is("LEFT 1000, limit 1000", z.learnt(STILL_SEED, 1000, 1000), -2);
        z.run(STILL_SEED, 1, 1000);
        DUE.is("LEFT", z.last(1), 1000);
    }

    private static void learntIsAtMostLimit() {
        int[][] rows = {{0, 0}, {3, 1}, {-3, 1}, {512, 252}, {-512, 252}, {100, 49}};
        for (int[] r : rows) {
            Counted x = deaf();
            x.part(0, r[0]);
            DUE.is("limit of just LEFT " + r[1], x.learnt(STILL_SEED, 1000, r[1]), 8);
            if (r[1] > 0) {
                DUE.is("limit just below LEFT " + r[1], x.learnt(STILL_SEED, 1000, r[1] - 1), NONE);
            }
            DUE.is("limit above LEFT " + r[1], x.learnt(STILL_SEED, 1000, r[1] + 1), 8);
        }
    }

    /** "the least n, 8 to 200, such that behind n TICKS LEFT of the last 8 of them": none ahead of the call is. */
    private static void learntCountsFromItsRun() {
        Counted x = deaf();
        DUE.is("without a TICK", x.learnt(0, 1000, 0), 8);
        x.run(1, 60, 1000);
        DUE.is("behind 60 calm TICKS", x.learnt(0, 1000, 0), 8);
        x.tick(0, 2000);
        DUE.is("behind a loud TICK", x.learnt(0, 1000, 0), 8);
    }

    /** An ECHO of one FAR comes at one TICK of the RUN, all others are calm. */
    private static void learntIsBrokenByOneOf8() {
        for (int at = 1; at <= 22; at++) {
            Counted x = deaf();
            x.part(at <= 7 ? at : 7, 1023);
            x.part(8, at <= 7 ? 0 : at - 7);
            x.speak(1000, 0);
            DUE.is("LEFT of 999 at TICK " + at + " of the RUN", x.learnt(5, 0, 998), at <= 8 ? at + 8 : 8);
            DUE.is("LEFT of 999 at TICK " + at + ", limit 999", x.learnt(5, 0, 999), 8);
        }
    }

    /** LEFT is 1023 * FAR / 1024; what is due is worked out here, without the class. */
    private static void learntEndsAt200() {
        int[] seen = new int[3];
        for (int seed = 0; seed <= 65536 && (seen[0] == 0 || seen[1] == 0 || seen[2] == 0); seed++) {
            int n = firstCalm(seed);
            if (n >= 199 && n <= 201 && seen[n - 199] == 0) {
                seen[n - 199] = 1;
                Counted x = deaf();
                x.part(0, 1023);
                DUE.is("learnt from " + seed + " by " + n, x.learnt(seed, 1000, 500), n <= 200 ? n : NONE);
            }
        }
        DUE.is("seeds for 199, 200, 201", seen[0] + seen[1] + seen[2], 3);
    }

    private static int firstCalm(int seed) {
        int z = seed;
        int calm = 0;
        for (int n = 1; n <= 201; n++) {
            z = (75 * z + 74) % 65537;
            calm = Math.abs(1023 * (z % 2001 - 1000) / 1024) <= 500 ? calm + 1 : 0;
            if (calm == 8) {
                return n;
            }
        }
        return 0;
    }

    /** "By a RUN from now on": by the TAPS, RULES and HOLD that are now. */
    private static void learntIsFromNowOn() {
        Counted x = new Counted();
        x.part(0, 300);
        int first = x.learnt(21, 1000, 3);
        x.run(21, 60, 1000);
        x.run(22, 60, 1000);
        int later = x.learnt(21, 1000, 3);
        DUE.holds("sooner behind 120 TICKS: " + later + ", at first " + first, 8 <= later && later < first);
        x.seek();
        int anew = x.learnt(21, 1000, 3);
        DUE.holds("later without TAPS: " + anew + ", with them " + later, anew > later);
        x.rule(0, 0);
        DUE.is("learnt by STEP 0", x.learnt(21, 1000, 3), NONE);
        DUE.is("learnt by STEP 0, LOUD 0", x.learnt(21, 0, 3), 8);
    }

    /** "Nothing changes": NOISE, HOLD, TAPS and beginnings of 200 TICKS are only tried. */
    private static void learntChangesNothing() {
        Counted x = busy();
        Counted y = busy();
        x.learnt(3, 1000, 0);
        x.learnt(STILL_SEED, 1000, 0);
        x.learnt(3, 0, 999);
        Look.sameWithImages(DUE, "behind learnt", x, y);
        DUE.is("run behind learnt", x.run(3, 60, 1000), y.run(3, 60, 1000));
        DUE.is("restore behind learnt", x.restore(0), 1);
        DUE.is("TICKS of the IMAGE behind learnt", x.count(0), 1);
        Counted fresh = new Counted();
        fresh.part(0, 900);
        fresh.learnt(3, 1000, 0);
        DUE.is("last(0) behind learnt alone", fresh.last(0), -1000000003);
        DUE.is("ago(0, 0) behind learnt alone", fresh.ago(0, 0), -1000000006);
        DUE.is("began behind learnt alone", fresh.began(-1, 0), 0);
        DUE.is("restore behind learnt alone", fresh.restore(0), -3);
    }

    private static Counted busy() {
        Counted x = new Counted();
        x.tick(1, 1);
        x.image(0);
        x.rule(2, 100);
        x.rule(3, 30);
        x.part(2, -600);
        x.part(8, 3);
        x.run(40, 50, 700);
        x.tick(0, -2000);
        return x;
    }
}
