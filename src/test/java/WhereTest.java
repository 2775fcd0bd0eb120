/** Promises 11 to 14: likeness, seek, gain, began. */
public final class WhereTest {
    private static final int OUT = -1000000002;
    private static final Due DUE = new Due();

    public static void main(String[] args) {
        likenessByHand();
        likenessReaches();
        seekByHand();
        seekTakesTheLeast();
        seekClearsTaps();
        gainByHand();
        gainSpans32();
        beganByHand();
        beganSpans200();
        beganRefusals();
        DUE.end("WhereTest");
    }

    private static void likenessByHand() {
        Counted x = new Counted();
        x.tick(10, 3);
        x.tick(-20, 5);
        x.tick(7, -2);
        DUE.is("likeness(0)", x.likeness(0), 30 - 100 - 14);
        DUE.is("likeness(1)", x.likeness(1), 50 + 40);
        DUE.is("likeness(2)", x.likeness(2), -20);
        DUE.is("likeness(3)", x.likeness(3), 0);
        int[] wrong = {-1, 16, Integer.MIN_VALUE, Integer.MAX_VALUE};
        for (int w : wrong) {
            DUE.is("likeness(" + w + ")", x.likeness(w), OUT);
        }
    }

    private static void likenessReaches() {
        for (int d = 0; d <= 15; d++) {
            Counted x = new Counted();
            x.tick(100, d == 0 ? 2000 : 0);
            for (int t = 1; t <= d; t++) {
                x.tick(0, t == d ? 2000 : 0);
            }
            for (int i = 0; i < 24; i++) {
                DUE.is("likeness(" + d + ") with NEAR of " + i + " ago", x.likeness(d), 200000);
                x.tick(0, 0);
            }
            DUE.is("likeness(" + d + ") with NEAR of 24 ago", x.likeness(d), 0);
        }
        Counted y = new Counted();
        for (int t = 0; t < 120; t++) {
            y.tick(-1000, 2000);
        }
        DUE.is("the greatest likeness", y.likeness(15), -48000000);
    }

    private static void seekByHand() {
        for (int d = 0; d <= 15; d++) {
            Counted x = new Counted();
            x.tick(900, 0);
            for (int t = 1; t < d; t++) {
                x.tick(0, 0);
            }
            if (d == 0) {
                x = new Counted();
                x.tick(900, -40);
            } else {
                x.tick(0, -40);
            }
            DUE.is("seek() of " + d, x.seek(), d);
            DUE.is("DELAY", x.count(14), d);
        }
    }

    private static void seekTakesTheLeast() {
        Counted x = new Counted();
        x.tick(5, 0);
        x.tick(-5, 0);
        x.tick(5, 0);
        x.tick(0, 7);
        DUE.is("likeness(1)", x.likeness(1), 35);
        DUE.is("likeness(2)", x.likeness(2), -35);
        DUE.is("seek() of sizes alike", x.seek(), 1);
        Counted y = new Counted();
        y.tick(-9, 0);
        y.tick(5, 0);
        y.tick(0, 7);
        DUE.is("seek() by size, not by sign", y.seek(), 2);
    }

    private static void seekClearsTaps() {
        Counted x = new Counted();
        x.part(3, 900);
        x.run(4, 60, 900);
        DUE.holds("TAPS were learnt", x.count(3) > 0);
        DUE.is("seek()", x.seek(), 3);
        DUE.is("sizes of TAPS", x.count(3), 0);
        DUE.is("ticks stay", x.count(0), 60);
        Counted y = new Counted();
        y.tick(1000, 100);
        y.rule(0, 0);
        y.rule(4, 9);
        for (int i = 0; i < 30; i++) {
            y.tick(0, 0);
        }
        DUE.is("seek() of nought", y.seek(), -3);
        DUE.is("DELAY after a refusal", y.count(14), 9);
        DUE.is("TAPS after a refusal", y.tap(0), 51);
    }

    private static void gainByHand() {
        Counted x = new Counted();
        DUE.is("gain(-1)", x.gain(-1), -2);
        DUE.is("gain(2)", x.gain(2), -2);
        DUE.is("gain(least int)", x.gain(Integer.MIN_VALUE), -2);
        DUE.is("gain(0) of nothing", x.gain(0), -3);
        DUE.is("gain(1) of nothing", x.gain(1), -3);
        x.tick(0, 6);
        DUE.is("gain(0)", x.gain(0), 1);
        DUE.is("gain(1)", x.gain(1), 1);
        x.rule(2, 10);
        x.tick(0, 8);
        // (36 + 64) by 36
        DUE.is("gain(0)", x.gain(0), 25);
        DUE.is("gain(1)", x.gain(1), 9);
        Counted y = new Counted();
        y.rule(2, 1);
        y.rule(3, 9);
        DUE.is("NOISE", y.tick(0, 0), 74 % 19 - 9);
        DUE.is("gain(0) of 0 by 64", y.gain(0), 0);
        DUE.is("gain(1) of 0 by 64", y.gain(1), 1);
        Counted z = new Counted();
        z.rule(2, 500);
        z.tick(0, 400);
        DUE.is("gain(0) with OUT 0", z.gain(0), -3);
        DUE.is("gain(1) with OUT 0", z.gain(1), -3);
        DUE.is("gain(2) with OUT 0", z.gain(2), -2);
    }

    private static void gainSpans32() {
        Counted x = new Counted();
        x.rule(2, 5);
        x.tick(0, 10);
        x.tick(0, 4);
        for (int i = 2; i < 32; i++) {
            x.tick(0, 0);
        }
        // (100 + 16) by 100
        DUE.is("gain(0) of 32", x.gain(0), 29);
        DUE.is("gain(1) of 32", x.gain(1), 25);
        x.tick(0, 0);
        DUE.is("gain(0), the 10 is 32 ago", x.gain(0), -3);
        Counted y = new Counted();
        for (int i = 0; i < 40; i++) {
            y.tick(0, i == 39 ? 1999 : 2000);
        }
        DUE.is("gain(0) of the greatest", y.gain(0), 1);
    }

    private static void beganByHand() {
        Counted x = new Counted();
        int[] nears = {5, 5, 0, 7, 0, 0, 9, 9, 9};
        for (int near : nears) {
            x.tick(0, near);
            DUE.is("the last TICK is one of them", x.began(-1, 0), x.count(0) < 4 ? 1 : x.count(0) < 7 ? 2 : 3);
        }
        DUE.is("how many", x.began(-1, 0), 3);
        DUE.is("began(0, 0)", x.began(0, 0), 1);
        DUE.is("began(1, 0)", x.began(1, 0), 4);
        DUE.is("began(2, 0)", x.began(2, 0), 7);
        DUE.is("began(3, 0)", x.began(3, 0), -6);
        DUE.is("began(-1, 1)", x.began(-1, 1), 0);
        DUE.is("began(0, 1)", x.began(0, 1), -6);
        for (int t = 10; t <= 30; t++) {
            x.tick(50, 0);
        }
        DUE.is("a TONE, how many", x.began(-1, 1), 1);
        DUE.is("a TONE's beginning", x.began(0, 1), 25);
        x.tick(51, 0);
        DUE.is("a TONE's beginning later", x.began(0, 1), 25);
        DUE.is("TALK goes by itself", x.began(-1, 0), 3);
    }

    private static void beganSpans200() {
        Counted x = new Counted();
        x.tick(0, 1);
        x.tick(0, 1);
        for (int t = 3; t <= 200; t++) {
            x.tick(0, 0);
        }
        DUE.is("TICK 1 of 200", x.began(0, 0), 1);
        x.tick(0, 0);
        DUE.is("TICK 2 had been TALK ahead", x.began(0, 0), -6);
        DUE.is("how many", x.began(-1, 0), 0);
        Counted y = new Counted();
        for (int t = 1; t <= 480; t++) {
            y.tick(0, t % 7 == 0 ? 1 : 0);
        }
        // 281 to 480: 287 to 476.
        DUE.is("how many of 480", y.began(-1, 0), 28);
        DUE.is("the oldest", y.began(0, 0), 287);
        DUE.is("the last", y.began(27, 0), 476);
        DUE.is("beyond", y.began(28, 0), -6);
        Counted z = new Counted();
        for (int t = 1; t <= 300; t++) {
            z.tick(0, 1);
        }
        DUE.is("TALK all the time", z.began(-1, 0), 0);
    }

    private static void beganRefusals() {
        Counted x = new Counted();
        x.tick(0, 1);
        int[] wrong = {-1, 2, Integer.MIN_VALUE, Integer.MAX_VALUE};
        for (int w : wrong) {
            DUE.is("began(0, " + w + ")", x.began(0, w), -2);
            DUE.is("began(-2, " + w + ")", x.began(-2, w), -2);
        }
        DUE.is("began(-2, 0)", x.began(-2, 0), -6);
        DUE.is("began(least int, 0)", x.began(Integer.MIN_VALUE, 0), -6);
        DUE.is("began(greatest int, 0)", x.began(Integer.MAX_VALUE, 0), -6);
    }
}
