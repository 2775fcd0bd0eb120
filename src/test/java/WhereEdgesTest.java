/**
 * The edges of block 3 and of promises 11 to 14, a test for each sentence of the document that names one.
 * What is refused is in RefusalsTest.
 */
public final class WhereEdgesTest {
    private static final int STATE = -3, NONE = -6;
    private static final Due DUE = new Due();

    public static void main(String[] args) {
        likenessWithoutATick();
        likenessOf24Nears();
        likenessOf38FarsAgo();
        likenessStaysPassed();
        likenessAtItsGreatest();
        likenessWithFewTicks();
        seekFindsEachDelay();
        seekTakesTheLeastOfAlikes();
        seekGoesBySize();
        seekClearsTapsAlone();
        seekWithoutLikeness();
        gainOfFewTicks();
        gainOf32Ticks();
        gainStaysPassed();
        gainInLowestTerms();
        gainOfNear0();
        gainWithoutOut();
        beganAtTick1();
        beganOf200Talks();
        beganOf200Tones();
        beganLooksAheadOfTheOldest();
        beganMany();
        beganIsCountedByMinus1();
        beganOverLongTimes();
        DUE.end("WhereEdgesTest");
    }

    /** FAR and NEAR 0, without an ECHO: many TICKS by few calls. */
    private static void rest(Counted x, int ticks) {
        for (int left = ticks; left > 0; left -= 60) {
            x.run(0, Math.min(60, left), 0);
        }
    }

    /** "LIKENESS of D, 0 to 15, of the last TICK (0, if there was none)". */
    private static void likenessWithoutATick() {
        Counted x = new Counted();
        x.part(0, 1000);
        for (int d = 0; d <= 15; d++) {
            DUE.is("likeness(" + d + ") without a TICK", x.likeness(d), 0);
        }
        DUE.is("likeness(-1) without a TICK", x.likeness(-1), -1000000002);
        DUE.is("likeness(16) without a TICK", x.likeness(16), -1000000002);
    }

    /** "NEAR of this TICK (the last that was) and each of the 23 ahead of it". */
    private static void likenessOf24Nears() {
        Counted x = new Counted();
        x.tick(7, -3);
        for (int i = 0; i <= 23; i++) {
            DUE.is("NEAR of " + i + " ahead", x.likeness(0), -21);
            x.tick(0, 0);
        }
        DUE.is("NEAR of 24 ahead", x.likeness(0), 0);
        Counted y = new Counted();
        for (int t = 1; t <= 24; t++) {
            y.tick(2, 5);
            DUE.is("24 just full, " + t, y.likeness(0), 10 * t);
        }
        y.tick(2, 5);
        DUE.is("24 just passed", y.likeness(0), 240);
    }

    /** "times FAR of D TICKS ahead of that one". */
    private static void likenessOf38FarsAgo() {
        Counted x = new Counted();
        x.tick(7, 0);
        for (int i = 1; i <= 14; i++) {
            x.tick(0, 0);
        }
        x.tick(0, 11);
        for (int i = 0; i <= 23; i++) {
            DUE.is("FAR of " + (15 + i) + " ago by D 15", x.likeness(15), 77);
            DUE.is("FAR of " + (15 + i) + " ago by D 14", x.likeness(14), 0);
            x.tick(0, 0);
        }
        DUE.is("FAR of 39 ago by D 15", x.likeness(15), 0);
    }

    private static void likenessStaysPassed() {
        Counted x = new Counted();
        for (int t = 0; t < 16; t++) {
            x.tick(7, 11);
        }
        rest(x, 23);
        DUE.is("likeness(15), NEAR of 23 ahead", x.likeness(15), 77);
        for (int i = 24; i <= 160; i++) {
            rest(x, 1);
            DUE.is("likeness(0), NEAR of " + i + " ahead", x.likeness(0), 0);
            DUE.is("likeness(15), NEAR of " + i + " ahead", x.likeness(15), 0);
        }
        Counted fars = new Counted();
        for (int i = 0; i <= 160; i++) {
            fars.tick(i == 0 ? 7 : 0, 11);
            DUE.is("likeness(0), FAR of " + i + " ago", fars.likeness(0), i <= 23 ? 77 : 0);
            DUE.is("likeness(15), FAR of " + i + " ago", fars.likeness(15), i >= 15 && i <= 38 ? 77 : 0);
        }
    }

    private static void likenessAtItsGreatest() {
        for (int far = -1000; far <= 1000; far += 2000) {
            for (int near = -2000; near <= 2000; near += 4000) {
                Counted x = new Counted();
                for (int t = 1; t <= 39; t++) {
                    x.tick(far, near);
                }
                DUE.is("likeness(0) of " + far + ", " + near, x.likeness(0), 24 * far * near);
                DUE.is("likeness(15) of " + far + ", " + near, x.likeness(15), 24 * far * near);
            }
        }
    }

    private static void likenessWithFewTicks() {
        Counted x = new Counted();
        x.tick(10, 20);
        DUE.is("likeness(0) of TICK 1", x.likeness(0), 200);
        DUE.is("likeness(1) of TICK 1", x.likeness(1), 0);
        x.tick(0, 30);
        DUE.is("likeness(0) of TICK 2", x.likeness(0), 200);
        DUE.is("likeness(1) of TICK 2", x.likeness(1), 300);
        DUE.is("likeness(2) of TICK 2", x.likeness(2), 0);
    }

    /** "DELAY is the D whose LIKENESS has the greatest size ...: which it is". */
    private static void seekFindsEachDelay() {
        for (int d = 0; d <= 15; d++) {
            Counted x = new Counted();
            x.rule(4, 15 - d);
            for (int t = 0; t <= d; t++) {
                x.tick(t == 0 ? -1 : 0, t == d ? 1 : 0);
            }
            DUE.is("likeness(" + d + ")", x.likeness(d), -1);
            DUE.is("seek() of " + d, x.seek(), d);
            DUE.is("DELAY of " + d, x.count(14), d);
            DUE.is("seek() of " + d + " once more", x.seek(), d);
        }
    }

    /** "of such the least". */
    private static void seekTakesTheLeastOfAlikes() {
        for (int a = 0; a <= 15; a++) {
            for (int b = a + 1; b <= 15; b++) {
                Counted x = new Counted();
                for (int ago = 15; ago >= 0; ago--) {
                    x.tick(ago == a ? 9 : ago == b ? -9 : 0, ago == 0 ? 4 : 0);
                }
                DUE.is("seek() of " + a + " and " + b, x.seek(), a);
            }
        }
        Counted all = new Counted();
        for (int t = 1; t <= 39; t++) {
            all.tick(5, 5);
        }
        DUE.is("seek() of all alike", all.seek(), 0);
    }

    private static void seekGoesBySize() {
        Counted x = new Counted();
        x.tick(-8, 0);
        x.tick(7, 0);
        x.tick(0, 100);
        DUE.is("likeness(1)", x.likeness(1), 700);
        DUE.is("likeness(2)", x.likeness(2), -800);
        DUE.is("seek() by size", x.seek(), 2);
        Counted y = new Counted();
        y.tick(8, 0);
        y.tick(-7, 0);
        y.tick(0, -100);
        DUE.is("likeness(1)", y.likeness(1), 700);
        DUE.is("likeness(2)", y.likeness(2), -800);
        DUE.is("seek() by size", y.seek(), 2);
    }

    private static Counted learnedAt4() {
        Counted x = new Counted();
        x.rule(0, 700);
        x.rule(1, 9);
        x.rule(2, 30);
        x.rule(3, 8);
        x.part(2, 500);
        x.part(8, 2);
        x.run(12, 50, 950);
        x.tick(0, 480);
        x.run(13, 5, 950);
        return x;
    }

    /** "and all TAPS are 0": all else but DELAY is as it was. */
    private static void seekClearsTapsAlone() {
        Counted x = learnedAt4();
        Counted y = learnedAt4();
        DUE.holds("TAPS ahead of seek()", x.count(3) > 0);
        DUE.holds("HOLD and SEED ahead of seek()", x.count(1) > 0 && x.count(2) > 0);
        DUE.is("seek()", x.seek(), 4);
        for (int k = 0; k < 8; k++) {
            DUE.is("tap(" + k + ") behind seek()", x.tap(k), 0);
            DUE.is("last(" + k + ") behind seek()", x.last(k), y.last(k));
        }
        int[] asked = {0, 1, 2, 4, 5, 10, 11, 12, 13};
        for (int what : asked) {
            DUE.is("count(" + what + ") behind seek()", x.count(what), y.count(what));
        }
        for (int i = 0; i < 32; i++) {
            for (int what = 0; what < 3; what++) {
                DUE.is("ago(" + i + ", " + what + ") behind seek()", x.ago(i, what), y.ago(i, what));
            }
        }
        DUE.is("began behind seek()", x.began(-1, 0), y.began(-1, 0));
        DUE.is("part(2, 0) behind seek()", x.part(2, 0), 500);
    }

    /** "STATE: all LIKENESSES are 0". */
    private static void seekWithoutLikeness() {
        Counted nearless = new Counted();
        nearless.rule(4, 7);
        nearless.tick(1000, 0);
        DUE.is("seek() without NEAR", nearless.seek(), STATE);
        DUE.is("DELAY stays", nearless.count(14), 7);
        Counted farless = new Counted();
        farless.tick(0, 2000);
        DUE.is("seek() without FAR", farless.seek(), STATE);
        Counted early = new Counted();
        early.tick(0, 2000);
        early.tick(1000, 0);
        DUE.is("seek() with NEAR ahead of FAR", early.seek(), STATE);
        Counted late = new Counted();
        late.tick(1000, 0);
        rest(late, 15);
        late.tick(0, 2000);
        DUE.is("seek() with FAR of 16 ahead", late.seek(), STATE);
        Counted even = new Counted();
        even.tick(3, 0);
        even.tick(0, 6);
        even.tick(3, 0);
        even.tick(0, -6);
        DUE.is("likeness(1) of sums that are 0", even.likeness(1), 0);
        DUE.is("likeness(3), what is left of them", even.likeness(3), -18);
        DUE.is("seek() of them", even.seek(), 3);
        Counted passing = new Counted();
        passing.tick(1000, 400);
        rest(passing, 23);
        DUE.is("seek() with NEAR of 23 ahead", passing.seek(), 0);
        rest(passing, 1);
        DUE.is("seek() with NEAR of 24 ahead", passing.seek(), STATE);
    }

    /** "the squares of NEAR of the last 32 TICKS (fewer, if there were not so many)". */
    private static void gainOfFewTicks() {
        Counted x = new Counted();
        x.rule(2, 4);
        x.tick(0, 3);
        DUE.is("gain(0) of OUT 0", x.gain(0), STATE);
        x.tick(0, 4);
        DUE.is("gain(0) of 2 TICKS", x.gain(0), 25);
        DUE.is("gain(1) of 2 TICKS", x.gain(1), 16);
        x.tick(0, -5);
        DUE.is("gain(0) of 3 TICKS", x.gain(0), 50);
        DUE.is("gain(1) of 3 TICKS", x.gain(1), 41);
    }

    private static void gainOf32Ticks() {
        Counted x = new Counted();
        x.rule(2, 4);
        x.tick(0, 3);
        x.tick(0, 5);
        rest(x, 30);
        DUE.is("gain(0), the 3 is 31 ago", x.gain(0), 34);
        DUE.is("gain(1), the 3 is 31 ago", x.gain(1), 25);
        rest(x, 1);
        DUE.is("gain(0), the 5 is 31 ago", x.gain(0), 1);
        DUE.is("gain(1), the 5 is 31 ago", x.gain(1), 1);
        rest(x, 1);
        DUE.is("gain(0), the 5 is 32 ago", x.gain(0), STATE);
        DUE.is("gain(1), the 5 is 32 ago", x.gain(1), STATE);
    }

    private static void gainStaysPassed() {
        Counted outs = new Counted();
        outs.tick(0, 5);
        rest(outs, 31);
        DUE.is("gain(0), the 5 is 31 ago", outs.gain(0), 1);
        for (int i = 32; i <= 160; i++) {
            rest(outs, 1);
            DUE.is("gain(0), the 5 is " + i + " ago", outs.gain(0), STATE);
        }
        Counted nears = new Counted();
        nears.rule(2, 4);
        nears.tick(0, 3);
        for (int i = 1; i <= 160; i++) {
            nears.tick(0, 4);
            int others = Math.min(32, i);
            boolean whole = i >= 32;
            DUE.is("the 3 is " + i + " ago", (long) nears.gain(0) * 16 * others, (long) nears.gain(1) * (16 * others + (whole ? 0 : 9)));
        }
    }

    /** "GAIN as a fraction in lowest terms". */
    private static void gainInLowestTerms() {
        // NEAR a by NOISE of 0, NEAR b by LEFT: a * a and b * b, added, by b * b.
        int[][] rows = {{499, 500, 499001, 250000}, {300, 500, 34, 25}, {400, 500, 41, 25}, {0, 500, 1, 1}, {499, 2000, 4249001, 4000000},
            {250, 500, 5, 4}};
        for (int[] r : rows) {
            Counted x = new Counted();
            x.rule(2, 500);
            x.tick(0, r[0]);
            x.tick(0, -r[1]);
            DUE.is("gain(0) of " + r[0] + ", " + r[1], x.gain(0), r[2]);
            DUE.is("gain(1) of " + r[0] + ", " + r[1], x.gain(1), r[3]);
        }
        Counted most = new Counted();
        for (int i = 0; i < 32; i++) {
            most.tick(0, 2000);
        }
        DUE.is("gain(0) of the greatest alike", most.gain(0), 1);
        DUE.is("gain(1) of the greatest alike", most.gain(1), 1);
        Counted sums = new Counted();
        sums.rule(2, 500);
        for (int i = 0; i < 31; i++) {
            sums.tick(0, 499);
        }
        sums.tick(0, 500);
        DUE.is("gain(0) of 31 and 1", sums.gain(0), 31 * 249001 + 250000);
        DUE.is("gain(1) of 31 and 1", sums.gain(1), 250000);
        Counted less = new Counted();
        less.rule(1, 0);
        less.rule(0, 1024);
        less.tick(1, -1);
        less.rule(0, 0);
        // OUT is above NEAR: 1 and 9 by 1 and 49.
        less.tick(4, 3);
        DUE.is("gain(0) below 1", less.gain(0), 1);
        DUE.is("gain(1) below 1", less.gain(1), 5);
    }

    private static void gainOfNear0() {
        Counted x = new Counted();
        x.rule(2, 1);
        x.rule(3, 50);
        DUE.is("NOISE", x.tick(0, 0), 24);
        DUE.is("gain(0) of NEAR 0", x.gain(0), 0);
        DUE.is("gain(1) of NEAR 0", x.gain(1), 1);
    }

    /** "STATE: the squares of OUT are 0"; OUTSIDE goes ahead of it. */
    private static void gainWithoutOut() {
        Counted x = new Counted();
        x.tick(1000, 0);
        DUE.is("gain(0) of NEAR 0, OUT 0", x.gain(0), STATE);
        x.rule(2, 500);
        x.tick(1000, 499);
        DUE.is("gain(0) of OUT 0", x.gain(0), STATE);
        DUE.is("gain(1) of OUT 0", x.gain(1), STATE);
        DUE.is("gain(-1) of OUT 0", x.gain(-1), -2);
        DUE.is("gain(2) of OUT 0", x.gain(2), -2);
    }

    /** "and had not been so at the TICK ahead": ahead of TICK 1 was none. */
    private static void beganAtTick1() {
        Counted x = new Counted();
        DUE.is("began(-1, 0) without a TICK", x.began(-1, 0), 0);
        DUE.is("began(-1, 1) without a TICK", x.began(-1, 1), 0);
        DUE.is("began(0, 0) without a TICK", x.began(0, 0), NONE);
        DUE.is("began(0, 1) without a TICK", x.began(0, 1), NONE);
        x.tick(0, 1);
        DUE.is("how many at TICK 1", x.began(-1, 0), 1);
        DUE.is("TICK 1", x.began(0, 0), 1);
        DUE.is("the one behind", x.began(1, 0), NONE);
        x.tick(0, 1);
        DUE.is("how many at TICK 2", x.began(-1, 0), 1);
        x.tick(0, 0);
        DUE.is("how many at TICK 3", x.began(-1, 0), 1);
        x.tick(0, 1);
        DUE.is("how many at TICK 4", x.began(-1, 0), 2);
        DUE.is("the last one is one of them", x.began(1, 0), 4);
        DUE.is("the oldest first", x.began(0, 0), 1);
    }

    /** "of the last 200 TICKS (the last one is one of them)". */
    private static void beganOf200Talks() {
        Counted x = new Counted();
        x.tick(0, 1);
        rest(x, 4);
        x.tick(0, 1);
        rest(x, 194);
        DUE.is("TICKS", x.count(0), 200);
        DUE.is("TICK 1 of 200", x.began(0, 0), 1);
        DUE.is("TICK 6 of 200", x.began(1, 0), 6);
        rest(x, 1);
        DUE.is("how many at 201", x.began(-1, 0), 1);
        DUE.is("TICK 6 at 201", x.began(0, 0), 6);
        rest(x, 4);
        DUE.is("TICK 6 at 205", x.began(0, 0), 6);
        rest(x, 1);
        DUE.is("TICK 6 at 206", x.began(0, 0), NONE);
        DUE.is("how many at 206", x.began(-1, 0), 0);
    }

    private static void beganOf200Tones() {
        Counted x = new Counted();
        x.tick(3, 0);
        rest(x, 7);
        x.tick(3, 0);
        DUE.is("a TONE at TICK 9", x.began(0, 1), 9);
        rest(x, 199);
        DUE.is("TICKS", x.count(0), 208);
        DUE.is("TICK 9 of 208", x.began(0, 1), 9);
        DUE.is("how many of 208", x.began(-1, 1), 1);
        DUE.is("no TALK", x.began(-1, 0), 0);
        rest(x, 1);
        DUE.is("TICK 9 of 209", x.began(0, 1), NONE);
        DUE.is("how many of 209, though 10 to 16 were a TONE", x.began(-1, 1), 0);
    }

    private static void beganLooksAheadOfTheOldest() {
        Counted going = new Counted();
        going.tick(0, 1);
        going.tick(0, 1);
        rest(going, 199);
        DUE.is("TICK 2 is the oldest of 201, TICK 1 was TALK", going.began(-1, 0), 0);
        Counted coming = new Counted();
        coming.tick(0, 0);
        coming.tick(0, 1);
        rest(coming, 199);
        DUE.is("TICK 2 is the oldest of 201, TICK 1 was none", coming.began(0, 0), 2);
        rest(coming, 1);
        DUE.is("TICK 2 of 202", coming.began(0, 0), NONE);
    }

    private static void beganMany() {
        Counted x = new Counted();
        for (int t = 1; t <= 200; t++) {
            x.tick(0, t % 2);
        }
        DUE.is("how many of 200", x.began(-1, 0), 100);
        for (int i = 0; i < 100; i++) {
            DUE.is("began(" + i + ", 0)", x.began(i, 0), 2 * i + 1);
        }
        DUE.is("began(100, 0)", x.began(100, 0), NONE);
        x.tick(0, 1);
        DUE.is("how many of 201", x.began(-1, 0), 100);
        DUE.is("the oldest of 201", x.began(0, 0), 3);
        DUE.is("the last of 201", x.began(99, 0), 201);
    }

    /** "i = -1: how many there are; NONE: there is none such (i below -1, too)". */
    private static void beganIsCountedByMinus1() {
        Counted x = new Counted();
        for (int what = 0; what < 2; what++) {
            DUE.is("began(-2, " + what + ") of none", x.began(-2, what), NONE);
            DUE.is("began(-1, " + what + ") of none", x.began(-1, what), 0);
        }
        x.tick(0, 5);
        int[] below = {-2, -3, -6, -200, Integer.MIN_VALUE, Integer.MIN_VALUE + 1};
        int[] above = {1, 2, 199, 200, Integer.MAX_VALUE};
        for (int i : below) {
            DUE.is("began(" + i + ", 0)", x.began(i, 0), NONE);
        }
        for (int i : above) {
            DUE.is("began(" + i + ", 0)", x.began(i, 0), NONE);
        }
        DUE.is("began(-1, 0)", x.began(-1, 0), 1);
        DUE.is("began(0, 0)", x.began(0, 0), 1);
    }

    private static void beganOverLongTimes() {
        int[] ticks = {63, 64, 65, 199, 200, 201, 255, 256, 257, 511, 512, 513, 1000, 10000};
        for (int at : ticks) {
            Counted x = new Counted();
            rest(x, at - 1);
            x.tick(0, 1);
            DUE.is("TALK at TICK " + at, x.began(0, 0), at);
            rest(x, 199);
            DUE.is("TALK at TICK " + at + ", 199 behind", x.began(0, 0), at);
            DUE.is("how many", x.began(-1, 0), 1);
            rest(x, 1);
            DUE.is("TALK at TICK " + at + ", 200 behind", x.began(0, 0), NONE);
            for (int behind = 201; behind <= 280; behind++) {
                rest(x, 1);
                DUE.is("how many " + behind + " behind", x.began(-1, 0), 0);
            }
            DUE.is("TICKS", x.count(0), at + 280);
        }
    }
}
