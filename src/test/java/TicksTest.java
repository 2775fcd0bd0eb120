/** Promises 2 to 6: rule, tick, tap, last, ago. */
public final class TicksTest {
    private static final int OUT = -1000000002;
    private static final Due DUE = new Due();

    public static void main(String[] args) {
        rules();
        refusedTicks();
        firstTickByHand();
        estimateIsCutTowardsZero();
        tapsAreLimited();
        loudReaches23Back();
        talkAndHold();
        hangOfNought();
        tones();
        toneReachesAheadOfTick1();
        onATone();
        learnedEdges();
        delaySees();
        clipAndHiss();
        outIsLimited();
        lastIsOfThatTick();
        agoEdges();
        DUE.end("TicksTest");
    }

    private static void rules() {
        int[] first = {512, 5, 0, 0, 0};
        int[] most = {1024, 20, 500, 50, 15};
        Counted x = new Counted();
        for (int r = 0; r < 5; r++) {
            DUE.is("rule(" + r + ", -1)", x.rule(r, -1), -2);
            DUE.is("rule(" + r + ", most + 1)", x.rule(r, most[r] + 1), -2);
            DUE.is("count after refusals", x.count(10 + r), first[r]);
            DUE.is("rule(" + r + ", most)", x.rule(r, most[r]), first[r]);
            DUE.is("rule(" + r + ", 0)", x.rule(r, 0), most[r]);
            DUE.is("rule(" + r + ", 3)", x.rule(r, 3), 0);
            DUE.is("count(10 + " + r + ")", x.count(10 + r), 3);
        }
        int[] wrong = {-1, 5, Integer.MIN_VALUE, Integer.MAX_VALUE};
        for (int w : wrong) {
            DUE.is("rule(" + w + ", 0)", x.rule(w, 0), -2);
        }
        DUE.is("rule(0, least int)", x.rule(0, Integer.MIN_VALUE), -2);
        DUE.is("rule(0, greatest int)", x.rule(0, Integer.MAX_VALUE), -2);
    }

    private static void refusedTicks() {
        Counted x = new Counted();
        int[][] wrong = {{1001, 0}, {-1001, 0}, {0, 2001}, {0, -2001}, {Integer.MIN_VALUE, 0},
            {Integer.MAX_VALUE, 0}, {0, Integer.MIN_VALUE}, {0, Integer.MAX_VALUE}};
        for (int[] w : wrong) {
            DUE.is("tick(" + w[0] + ", " + w[1] + ")", x.tick(w[0], w[1]), OUT);
        }
        DUE.is("ticks after refusals", x.count(0), 0);
        DUE.is("likeness after refusals", x.likeness(0), 0);
        DUE.is("tick(1000, 2000)", x.tick(1000, 2000), 2000);
        DUE.is("tick(-1000, -2000)", x.tick(-1000, -2000), -2000);
        DUE.is("ticks", x.count(0), 2);
        int[] wrongTaps = {-1, 8, Integer.MIN_VALUE, Integer.MAX_VALUE};
        for (int w : wrongTaps) {
            DUE.is("tap(" + w + ")", x.tap(w), OUT);
            DUE.is("last(" + w + ")", x.last(w), OUT);
            DUE.is("fresh last(" + w + ")", new Counted().last(w), OUT);
        }
    }

    private static void firstTickByHand() {
        Counted x = new Counted();
        DUE.is("tick(1000, 300)", x.tick(1000, 300), 300);
        int[] want = {0, 300, 300, 1000, 1000000, 0, 0, 1};
        for (int i = 0; i < 8; i++) {
            DUE.is("last(" + i + ")", x.last(i), want[i]);
        }
        // 512 * 300 * 1000 / 1000000 = 153.6
        DUE.is("tap(0)", x.tap(0), 153);
        // 153 * -1000 / 1024 = -149.4; 512 * 449 * 1000 / 2000000 = 114.9
        DUE.is("tick(-1000, 300)", x.tick(-1000, 300), 449);
        DUE.is("ESTIMATE", x.last(0), -149);
        DUE.is("LEFT", x.last(1), 449);
        DUE.is("POWER", x.last(4), 2000000);
        DUE.is("tap(0) then", x.tap(0), 153 - 114);
        DUE.is("tap(1) then", x.tap(1), 114);
    }

    private static void estimateIsCutTowardsZero() {
        Counted x = new Counted();
        x.rule(0, 1024);
        x.tick(1000, 1);
        DUE.is("tap(0), 1024 * 1000 / 1000000", x.tap(0), 1);
        x.tick(-1000, 0);
        DUE.is("-1000 / 1024", x.last(0), 0);
        DUE.is("LEFT by that", x.last(1), 0);
    }

    private static void tapsAreLimited() {
        Counted x = new Counted();
        x.rule(0, 1024);
        x.rule(1, 0);
        x.tick(1, 2000);
        DUE.is("tap(0) upwards", x.tap(0), 4095);
        Counted y = new Counted();
        y.rule(0, 1024);
        y.rule(1, 0);
        y.tick(1, -2000);
        DUE.is("tap(0) downwards", y.tap(0), -4096);
        DUE.is("sizes", y.count(3), 4096);
        // With TAPS at their ends and a loud FAR the product goes beyond an int.
        y.tick(1000, 2000);
        DUE.is("LEFT", y.last(1), 2000 + 4000);
        DUE.is("tap(0) by 1024 * 6000 * 1000 / 1000001", y.tap(0), -4096 + 6143);
        DUE.is("tap(1) by 1024 * 6000 * 1 / 1000001", y.tap(1), 6);
        greatestLeft();
    }

    /** All TAPS at an end and all FARS at theirs: the greatest ESTIMATE there is. */
    private static void greatestLeft() {
        Counted x = new Counted();
        x.rule(0, 1024);
        x.rule(1, 0);
        int[] fars = {1, 1, 1, 1, 1, 1, 1, 2};
        for (int i = 0; i < 40; i++) {
            x.tick(fars[i % 8] + (i == 12 ? 1 : 0), -2000);
        }
        DUE.is("sizes of TAPS", x.count(3), 8 * 4096);
        x.rule(0, 0);
        for (int i = 0; i < 8; i++) {
            x.tick(i == 3 ? 1000 : 1000 - i % 2, 0);
        }
        DUE.is("ESTIMATE", x.last(0), -4 * (8000 - 3));
        x.rule(0, 1024);
        x.tick(1000, 2000);
        DUE.is("LEFT", x.last(1), 2000 + 4 * (8000 - 3));
        DUE.is("OUT", x.last(2), 2000);
        // 1024 * 33988 * 1000 / 7994003 = 4353.7
        DUE.is("POWER", x.last(4), 5 * 1000000 + 3 * 998001);
        DUE.is("tap(0)", x.tap(0), -4096 + 1024L * 33988 * 1000 / 7994003);
    }

    private static void loudReaches23Back() {
        Counted x = new Counted();
        x.tick(-700, 0);
        for (int i = 1; i <= 23; i++) {
            x.tick(0, 0);
            DUE.is("LOUD, " + i + " behind", x.last(3), 700);
        }
        x.tick(0, 0);
        DUE.is("LOUD, 24 behind", x.last(3), 0);
    }

    private static void talkAndHold() {
        Counted x = new Counted();
        x.rule(1, 3);
        x.tick(100, -51);
        DUE.is("TALK by -51 of 100", x.last(5), 1);
        DUE.is("HOLD", x.count(1), 3);
        DUE.is("no learning", x.last(7), 0);
        x.tick(100, -50);
        DUE.is("TALK by -50 of 100", x.last(5), 0);
        DUE.is("HOLD", x.count(1), 2);
        x.rule(1, 20);
        DUE.is("HOLD by a new HANG", x.count(1), 2);
        x.tick(99, 50);
        DUE.is("TALK by 50 of 100 then", x.last(5), 0);
        x.tick(98, 0);
        DUE.is("HOLD", x.count(1), 0);
        DUE.is("learning at HOLD 0", x.last(7), 1);
        x.tick(97, 0);
        DUE.is("HOLD stays", x.count(1), 0);
        x.tick(0, 2000);
        DUE.is("HOLD by HANG", x.count(1), 20);
        Counted y = new Counted();
        y.tick(0, 0);
        DUE.is("TALK of 0 above 0", y.last(5), 0);
        y.tick(0, 1);
        DUE.is("TALK of 1 above 0", y.last(5), 1);
    }

    private static void hangOfNought() {
        Counted x = new Counted();
        x.tick(10, 2000);
        DUE.is("HOLD", x.count(1), 5);
        x.rule(1, 0);
        x.tick(10, 2000);
        DUE.is("HOLD by HANG 0", x.count(1), 0);
        DUE.is("TALK", x.last(5), 1);
        DUE.is("learning by TALK with HANG 0", x.last(7), 1);
    }

    private static void tones() {
        for (int p = 1; p <= 9; p++) {
            Counted x = new Counted();
            for (int t = 1; t <= 40; t++) {
                x.tick(t % p == 0 ? 300 : -100 + t % p, 0);
                int want = p <= 8 && t >= 16 ? p : 0;
                DUE.is("TONE of " + p + " at " + t, x.last(6), want);
            }
            x.tick(999, 0);
            DUE.is("TONE of " + p + " broken", x.last(6), 0);
            DUE.is("beginnings of " + p, x.began(-1, 1), p <= 8 ? 1 : 0);
        }
        Counted z = new Counted();
        for (int t = 1; t <= 20; t++) {
            z.tick(0, 0);
            DUE.is("TONE of nought", z.last(6), 0);
        }
        z.tick(5, 0);
        DUE.is("TONE by one", z.last(6), 0);
        for (int t = 1; t <= 20; t++) {
            z.tick(0, 0);
            DUE.is("TONE " + t + " behind one", z.last(6), 0);
        }
    }

    /** FARS ahead of TICK 1 are 0 and count among the 16: seven of them, 5, seven times 0, 5. */
    private static void toneReachesAheadOfTick1() {
        Counted x = new Counted();
        for (int t = 1; t <= 8; t++) {
            x.tick(t == 1 ? 5 : 0, 0);
            DUE.is("TONE at " + t, x.last(6), 0);
        }
        x.tick(5, 0);
        DUE.is("TONE at 9", x.last(6), 8);
        DUE.is("its beginning", x.began(0, 1), 9);
    }

    private static void onATone() {
        Counted x = new Counted();
        for (int t = 1; t <= 15; t++) {
            x.tick(800, 200);
        }
        DUE.is("learning ahead of the TONE", x.last(7), 1);
        int tap = x.tap(0);
        x.rule(2, 500);
        x.rule(3, 50);
        DUE.is("OUT by a TONE", x.tick(800, 123), 123);
        DUE.is("p", x.last(6), 1);
        DUE.is("learning by a TONE", x.last(7), 0);
        DUE.is("tap(0) let be", x.tap(0), tap);
        DUE.is("SEED let be", x.count(2), 0);
        DUE.holds("LEFT is NEAR less ESTIMATE", x.last(1) == 123 - x.last(0) && x.last(0) != 0);
        x.tick(800, 2000);
        DUE.is("HOLD goes on by a TONE", x.count(1), 5);
    }

    private static void learnedEdges() {
        Counted x = new Counted();
        x.rule(0, 0);
        x.tick(100, 50);
        DUE.is("learned by STEP 0", x.last(7), 1);
        DUE.is("tap(0) by STEP 0", x.tap(0), 0);
        for (int i = 0; i < 7; i++) {
            x.tick(0, 0);
        }
        DUE.is("POWER by TAP 7", x.last(4), 10000);
        DUE.is("learned by TAP 7", x.last(7), 1);
        x.tick(0, 0);
        DUE.is("POWER beyond TAP 7", x.last(4), 0);
        DUE.is("learned without POWER", x.last(7), 0);
    }

    private static void delaySees() {
        for (int delay = 0; delay <= 15; delay++) {
            Counted x = new Counted();
            x.rule(4, delay);
            for (int ago = 0; ago <= 23; ago++) {
                x.tick(ago == 0 ? 100 : 0, 50);
                boolean seen = delay <= ago && ago <= delay + 7;
                DUE.is("POWER by DELAY " + delay + ", " + ago + " ago", x.last(4), seen ? 10000 : 0);
                if (seen && ago == delay) {
                    DUE.is("tap(0) by DELAY " + delay, x.tap(0), 256);
                    DUE.is("tap(1) by DELAY " + delay, x.tap(1), 0);
                }
            }
        }
    }

    private static void clipAndHiss() {
        Counted x = new Counted();
        x.rule(2, 100);
        x.rule(3, 50);
        DUE.is("NOISE 74 % 101 - 50", x.tick(0, 99), 24);
        DUE.is("SEED", x.count(2), 74);
        DUE.is("no NOISE", x.tick(0, -100), -100);
        DUE.is("SEED stays", x.count(2), 74);
        DUE.is("NOISE 5624 % 101 - 50", x.tick(0, -99), 5624 % 101 - 50);
        DUE.is("LEFT is told", x.last(1), -99);
        x.rule(3, 0);
        DUE.is("NOISE without HISS", x.tick(0, 50), 0);
        DUE.is("SEED goes on", x.count(2), (75 * 5624 + 74) % 65537);
        Counted y = new Counted();
        y.rule(3, 50);
        DUE.is("CLIP 0", y.tick(0, 0), 0);
        DUE.is("SEED by CLIP 0", y.count(2), 0);
    }

    private static void outIsLimited() {
        Counted x = new Counted();
        x.rule(0, 1024);
        x.rule(1, 0);
        x.tick(2, -2000);
        DUE.is("tap(0)", x.tap(0), -4096);
        x.rule(0, 0);
        DUE.is("tick(1000, 1)", x.tick(1000, 1), 2000);
        DUE.is("LEFT", x.last(1), 4001);
        DUE.is("tick(-1000, 1)", x.tick(-1000, 1), -2000);
        DUE.is("LEFT", x.last(1), -3999);
    }

    private static void lastIsOfThatTick() {
        Counted x = new Counted();
        x.tick(1000, 300);
        x.rule(4, 15);
        x.rule(2, 500);
        x.seek();
        DUE.is("ESTIMATE later", x.last(0), 0);
        DUE.is("OUT later", x.last(2), 300);
        DUE.is("POWER later", x.last(4), 1000000);
        x.tick(1, 2000);
        DUE.is("TALK of the next", x.last(5), 1);
        x.tick(1001, 0);
        DUE.is("TALK after a refusal", x.last(5), 1);
    }

    private static void agoEdges() {
        int[] lengths = {1, 2, 31, 32, 33, 63, 64, 65, 100};
        for (int n : lengths) {
            Counted y = new Counted();
            for (int t = 1; t <= n; t++) {
                y.tick(t, -2 * t);
            }
            for (int i = 0; i < 32; i++) {
                boolean was = i < n;
                DUE.is("FAR of " + i + " ago of " + n, y.ago(i, 0), was ? n - i : -1000000006);
                DUE.is("NEAR of " + i + " ago of " + n, y.ago(i, 1), was ? -2 * (n - i) : -1000000006);
                DUE.holds("OUT of " + i + " ago of " + n, (y.ago(i, 2) == -1000000006) != was);
            }
            DUE.is("OUT of 0 ago of " + n, y.ago(0, 2), y.last(2));
        }
        Counted x = new Counted();
        for (int t = 1; t <= 100; t++) {
            x.tick(t, -2 * t);
        }
        DUE.holds("OUT is not NEAR", x.rule(2, 500) == 0 && x.tick(100, 3) == 0);
        DUE.is("OUT of 0 ago", x.ago(0, 2), 0);
        DUE.is("NEAR of 0 ago", x.ago(0, 1), 3);
        int[][] wrong = {{-1, 0}, {32, 0}, {0, -1}, {0, 3}, {Integer.MIN_VALUE, 0}, {0, Integer.MAX_VALUE}};
        for (int[] w : wrong) {
            DUE.is("ago(" + w[0] + ", " + w[1] + ")", x.ago(w[0], w[1]), OUT);
            DUE.is("fresh ago(" + w[0] + ", " + w[1] + ")", new Counted().ago(w[0], w[1]), OUT);
        }
    }
}
