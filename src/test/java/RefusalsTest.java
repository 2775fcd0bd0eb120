import java.util.ArrayList;
import java.util.Arrays;
import java.util.List;

/**
 * "Calls that are refused answer the first that fits, in the order in which they are told with the call";
 * "NONE is answered only where no refusal fits"; "What is refused changes nothing".
 * Each refused call is made on an object beside a twin that is not asked for it, and both are looked at.
 */
public final class RefusalsTest {
    private static final int LEAST = Integer.MIN_VALUE;
    private static final int GREATEST = Integer.MAX_VALUE;
    private static final int OUTSIDE = -2, STATE = -3, NONE = -6;
    private static final int GONE_OUTSIDE = -1000000002, GONE_STATE = -1000000003, GONE_NONE = -1000000006;
    private static final int[] RULES_MOST = {1024, 20, 500, 50, 15};
    private static final Due DUE = new Due();

    private interface Call {
        int of(Counted x, int[] v);
    }

    /** How an object came to where it is; the same way makes twins. */
    private enum Past { FRESH, ONE_TICK, USED, KEPT }

    public static void main(String[] args) {
        refusalsHaveTheirNumbers();
        rule();
        tick();
        tap();
        last();
        ago();
        part();
        speak();
        run();
        learnt();
        likeness();
        seek();
        gain();
        began();
        image();
        restore();
        count();
        DUE.end("RefusalsTest");
    }

    private static void refusalsHaveTheirNumbers() {
        DUE.is("GONE and OUTSIDE", EchoTaps.GONE + EchoTaps.OUTSIDE, GONE_OUTSIDE);
        DUE.is("GONE and STATE", EchoTaps.GONE + EchoTaps.STATE, GONE_STATE);
        DUE.is("GONE and NONE", EchoTaps.GONE + EchoTaps.NONE, GONE_NONE);
    }

    // ---- objects to ask

    private static Counted made(Past past) {
        Counted x = new Counted();
        if (past == Past.ONE_TICK) {
            x.tick(-700, 90);
        } else if (past == Past.USED) {
            use(x);
        } else if (past == Past.KEPT) {
            x.tick(300, 20);
            x.image(0);
            use(x);
            x.image(1);
            x.rule(2, 3);
            x.run(77, 9, 40);
        }
        return x;
    }

    /** Every number of the state is then another one than at first. */
    private static void use(Counted x) {
        x.rule(0, 700);
        x.rule(1, 3);
        x.rule(2, 60);
        x.rule(3, 20);
        x.rule(4, 1);
        for (int k = 0; k < 8; k++) {
            x.part(k, 40 * k - 130);
        }
        x.part(8, 1);
        x.run(65536, 20, 800);
        x.run(11, 45, 600);
        x.tick(0, 2000);
        x.tick(5, 3);
    }

    private static void refused(String name, Call call, int[] v, int want) {
        for (Past past : Past.values()) {
            refusedOn(past, name, call, v, want);
        }
    }

    private static void refusedOn(Past past, String name, Call call, int[] v, int want) {
        String told = past + " " + name + Arrays.toString(v);
        Counted x = made(past);
        Counted y = made(past);
        DUE.is(told, call.of(x, v), want);
        Look.sameWithImages(DUE, "behind " + told, x, y);
        if (past == Past.KEPT) {
            DUE.is("IMAGE 0 behind " + told, x.restore(0), 1);
            DUE.is("its TICKS behind " + told, x.count(0), 1);
            DUE.is("its NEAR behind " + told, x.ago(0, 1), 20);
            DUE.is("IMAGE 1 behind " + told, x.restore(1), 1);
            DUE.is("its TICKS behind " + told, x.count(0), 68);
            DUE.is("its CLIP behind " + told, x.count(12), 60);
        }
    }

    // ---- numbers to ask with

    private static int[] wrongOf(int least, int most) {
        return new int[] {least - 1, most + 1, LEAST, GREATEST};
    }

    /** All pairs of which one or both are outside. */
    private static List<int[]> wrongPairs(int leastA, int mostA, int leastB, int mostB) {
        List<int[]> pairs = new ArrayList<>();
        int[] inA = {leastA, mostA};
        int[] inB = {leastB, mostB};
        for (int a : wrongOf(leastA, mostA)) {
            for (int b : inB) {
                pairs.add(new int[] {a, b});
            }
            for (int b : wrongOf(leastB, mostB)) {
                pairs.add(new int[] {a, b});
            }
        }
        for (int b : wrongOf(leastB, mostB)) {
            for (int a : inA) {
                pairs.add(new int[] {a, b});
            }
        }
        return pairs;
    }

    /** Each of three numbers outside by itself, with another, and all three. */
    private static List<int[]> wrongTriples(int[] least, int[] most) {
        List<int[]> triples = new ArrayList<>();
        for (int set = 1; set < 8; set++) {
            for (int which = 0; which < 4; which++) {
                for (int end = 0; end < 2; end++) {
                    int[] v = new int[3];
                    for (int i = 0; i < 3; i++) {
                        boolean wrong = (set & (1 << i)) != 0;
                        v[i] = wrong ? wrongOf(least[i], most[i])[which] : end == 0 ? least[i] : most[i];
                    }
                    triples.add(v);
                }
            }
        }
        return triples;
    }

    private static void refusedOnes(String name, Call call, int least, int most, int want) {
        for (int w : wrongOf(least, most)) {
            refused(name, call, new int[] {w}, want);
        }
    }

    // ---- 1 ticks

    private static void rule() {
        Call call = (x, v) -> x.rule(v[0], v[1]);
        for (int what = 0; what < 5; what++) {
            for (int v : wrongOf(0, RULES_MOST[what])) {
                refused("rule", call, new int[] {what, v}, OUTSIDE);
            }
        }
        int[] values = {0, 1, -1, 15, 1025, LEAST, GREATEST};
        for (int what : wrongOf(0, 4)) {
            for (int v : values) {
                refused("rule", call, new int[] {what, v}, OUTSIDE);
            }
        }
    }

    private static void tick() {
        for (int[] v : wrongPairs(-1000, 1000, -2000, 2000)) {
            refused("tick", (x, a) -> x.tick(a[0], a[1]), v, GONE_OUTSIDE);
        }
    }

    private static void tap() {
        refusedOnes("tap", (x, v) -> x.tap(v[0]), 0, 7, GONE_OUTSIDE);
    }

    /** On the object without a TICK both refusals fit: OUTSIDE is told first. */
    private static void last() {
        Call call = (x, v) -> x.last(v[0]);
        refusedOnes("last", call, 0, 7, GONE_OUTSIDE);
        for (int what = 0; what < 8; what++) {
            refusedOn(Past.FRESH, "last", call, new int[] {what}, GONE_STATE);
        }
    }

    /** Without so many TICKS there is none, but OUTSIDE goes ahead of NONE. */
    private static void ago() {
        Call call = (x, v) -> x.ago(v[0], v[1]);
        for (int[] v : wrongPairs(0, 31, 0, 2)) {
            refused("ago", call, v, GONE_OUTSIDE);
        }
        for (int what = 0; what < 3; what++) {
            refusedOn(Past.FRESH, "ago", call, new int[] {0, what}, GONE_NONE);
            refusedOn(Past.FRESH, "ago", call, new int[] {31, what}, GONE_NONE);
            refusedOn(Past.ONE_TICK, "ago", call, new int[] {1, what}, GONE_NONE);
        }
    }

    // ---- 2 echoes

    private static void part() {
        Call call = (x, v) -> x.part(v[0], v[1]);
        for (int k = 0; k < 8; k++) {
            for (int v : wrongOf(-1024, 1023)) {
                refused("part", call, new int[] {k, v}, GONE_OUTSIDE);
            }
        }
        int[] lags = {-1, 16, -1024, 1023, LEAST, GREATEST};
        for (int v : lags) {
            refused("part", call, new int[] {8, v}, GONE_OUTSIDE);
        }
        int[] values = {0, 15, -1, 16, -1025, 1024, LEAST, GREATEST};
        for (int k : wrongOf(0, 8)) {
            for (int v : values) {
                refused("part", call, new int[] {k, v}, GONE_OUTSIDE);
            }
        }
    }

    private static void speak() {
        for (int[] v : wrongPairs(-1000, 1000, -2000, 2000)) {
            refused("speak", (x, a) -> x.speak(a[0], a[1]), v, GONE_OUTSIDE);
        }
    }

    private static void run() {
        for (int[] v : wrongTriples(new int[] {0, 1, 0}, new int[] {65536, 60, 1000})) {
            refused("run", (x, a) -> x.run(a[0], a[1], a[2]), v, OUTSIDE);
        }
    }

    private static void learnt() {
        for (int[] v : wrongTriples(new int[] {0, 0, 0}, new int[] {65536, 1000, 999})) {
            refused("learnt", (x, a) -> x.learnt(a[0], a[1], a[2]), v, OUTSIDE);
        }
    }

    // ---- 3 where, how much

    private static void likeness() {
        refusedOnes("likeness", (x, v) -> x.likeness(v[0]), 0, 15, GONE_OUTSIDE);
    }

    private static void seek() {
        refusedOn(Past.FRESH, "seek", (x, v) -> x.seek(), new int[0], STATE);
        Counted x = calmed();
        Counted y = calmed();
        DUE.is("seek() with LIKENESSES of 0", x.seek(), STATE);
        DUE.is("DELAY behind it", x.count(14), 6);
        DUE.is("tap(0) behind it", x.tap(0), 153);
        Look.sameWithImages(DUE, "behind seek()", x, y);
    }

    /** A TAP is learnt and DELAY is 6, but NEARS of the last 24 TICKS are 0. */
    private static Counted calmed() {
        Counted x = new Counted();
        x.tick(1000, 300);
        x.rule(0, 0);
        x.rule(4, 6);
        for (int i = 0; i < 24; i++) {
            x.tick(i, 0);
        }
        return x;
    }

    private static void gain() {
        Call call = (x, v) -> x.gain(v[0]);
        refusedOnes("gain", call, 0, 1, OUTSIDE);
        refusedOn(Past.FRESH, "gain", call, new int[] {0}, STATE);
        refusedOn(Past.FRESH, "gain", call, new int[] {1}, STATE);
    }

    /** i is never OUTSIDE: where `what` is right, an i for which there is none answers NONE. */
    private static void began() {
        Call call = (x, v) -> x.began(v[0], v[1]);
        int[] any = {-1, 0, 1, -2, 1000, LEAST, GREATEST};
        for (int what : wrongOf(0, 1)) {
            for (int i : any) {
                refused("began", call, new int[] {i, what}, OUTSIDE);
            }
        }
        int[] none = {-2, -3, 200, LEAST, GREATEST};
        for (int i : none) {
            refused("began", call, new int[] {i, 0}, NONE);
            refused("began", call, new int[] {i, 1}, NONE);
        }
    }

    // ---- 4 images

    private static void image() {
        refusedOnes("image", (x, v) -> x.image(v[0]), 0, 1, OUTSIDE);
        // 1 << 32 is 1 << 0 in Java.
        int[] shifted = {32, 33, -32, -31};
        for (int k : shifted) {
            refused("image", (x, v) -> x.image(v[0]), new int[] {k}, OUTSIDE);
        }
    }

    private static void restore() {
        Call call = (x, v) -> x.restore(v[0]);
        refusedOnes("restore", call, 0, 1, OUTSIDE);
        int[] shifted = {32, 33, -32, -31};
        for (int k : shifted) {
            refused("restore", call, new int[] {k}, OUTSIDE);
        }
        Past[] neverKept = {Past.FRESH, Past.ONE_TICK, Past.USED};
        for (Past past : neverKept) {
            refusedOn(past, "restore", call, new int[] {0}, STATE);
            refusedOn(past, "restore", call, new int[] {1}, STATE);
        }
        for (int k = 0; k < 2; k++) {
            Counted x = made(Past.USED);
            Counted y = made(Past.USED);
            x.image(k);
            y.image(k);
            DUE.is("restore of the other than " + k, x.restore(1 - k), STATE);
            Look.sameWithImages(DUE, "behind restore of the other than " + k, x, y);
        }
    }

    private static void count() {
        Call call = (x, v) -> x.count(v[0]);
        refusedOnes("count", call, 0, 14, OUTSIDE);
        int[] between = {6, 7, 8, 9};
        for (int what : between) {
            refused("count", call, new int[] {what}, OUTSIDE);
        }
    }
}
