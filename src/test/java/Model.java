import java.util.ArrayList;
import java.util.List;

/**
 * The document once more, told another way: every TICK that was is kept whole and nothing is reused,
 * so that a fault of rings, copies or spans in the class shows as a difference.
 */
final class Model {
    private static final int GONE = -1000000000;
    private static final int[] MOST = {1024, 20, 500, 50, 15};

    private static final class Tick {
        long far, near, estimate, left, out, loud, power;
        boolean talk, learned;
        int tone;
    }

    private static final class Kept {
        final List<Tick> ticks = new ArrayList<>();
        long[] rules = {512, 5, 0, 0, 0};
        long[] taps = new long[8];
        long[] parts = new long[8];
        int lag;
        long hold, seed;

        Kept copy() {
            Kept c = new Kept();
            c.ticks.addAll(ticks);
            c.rules = rules.clone();
            c.taps = taps.clone();
            c.parts = parts.clone();
            c.lag = lag;
            c.hold = hold;
            c.seed = seed;
            return c;
        }

        /** Of TICK number t, from 1 on; 0 ahead of it. */
        long far(int t) {
            return t < 1 ? 0 : ticks.get(t - 1).far;
        }

        long near(int t) {
            return t < 1 ? 0 : ticks.get(t - 1).near;
        }

        Tick last() {
            return ticks.get(ticks.size() - 1);
        }
    }

    private Kept now = new Kept();
    private final Kept[] images = new Kept[2];

    private static long cut(long v, long least, long most) {
        return v < least ? least : v > most ? most : v;
    }

    private static void tickOf(Kept s, long far, long near) {
        Tick t = new Tick();
        t.far = far;
        t.near = near;
        s.ticks.add(t);
        int n = s.ticks.size();
        long[] seen = new long[8];
        long sum = 0;
        for (int k = 0; k < 8; k++) {
            seen[k] = s.far(n - k - (int) s.rules[4]);
            sum += s.taps[k] * seen[k];
            t.power += seen[k] * seen[k];
        }
        t.estimate = sum / 1024;
        t.left = near - t.estimate;
        for (int i = n - 23; i <= n; i++) {
            t.loud = Math.max(t.loud, Math.abs(s.far(i)));
        }
        t.talk = 2 * Math.abs(near) > t.loud;
        s.hold = t.talk ? s.rules[1] : Math.max(0, s.hold - 1);
        t.tone = toneOf(s);
        t.learned = s.hold == 0 && t.tone == 0 && t.power > 0;
        for (int k = 0; k < 8 && t.learned; k++) {
            s.taps[k] = cut(s.taps[k] + s.rules[0] * t.left * seen[k] / t.power, -4096, 4095);
        }
        if (t.tone > 0) {
            t.out = near;
        } else if (Math.abs(t.left) < s.rules[2]) {
            s.seed = (s.seed * 75 + 74) % 65537;
            t.out = s.seed % (2 * s.rules[3] + 1) - s.rules[3];
        } else {
            t.out = cut(t.left, -2000, 2000);
        }
    }

    private static int toneOf(Kept s) {
        long[] lately = new long[16];
        boolean sounds = false;
        for (int i = 0; i < 16; i++) {
            lately[i] = s.far(s.ticks.size() - 15 + i);
            sounds |= lately[i] != 0;
        }
        for (int p = 1; p <= 8 && sounds; p++) {
            boolean same = true;
            for (int i = p; i < 16; i++) {
                same &= lately[i] == lately[i - p];
            }
            if (same) {
                return p;
            }
        }
        return 0;
    }

    private static void speakTo(Kept s, long far, long voice) {
        long sum = 0;
        int n = s.ticks.size() + 1;
        for (int k = 0; k < 8; k++) {
            sum += s.parts[k] * (k + s.lag == 0 ? far : s.far(n - k - s.lag));
        }
        tickOf(s, far, cut(sum / 1024 + voice, -2000, 2000));
    }

    private static boolean in(long v, long least, long most) {
        return v >= least && v <= most;
    }

    long rule(int what, int v) {
        if (!in(what, 0, 4) || !in(v, 0, MOST[what])) {
            return -2;
        }
        long was = now.rules[what];
        now.rules[what] = v;
        return was;
    }

    long tick(int far, int near) {
        if (!in(far, -1000, 1000) || !in(near, -2000, 2000)) {
            return GONE - 2;
        }
        tickOf(now, far, near);
        return now.last().out;
    }

    long tap(int k) {
        return in(k, 0, 7) ? now.taps[k] : GONE - 2;
    }

    long last(int what) {
        if (!in(what, 0, 7)) {
            return GONE - 2;
        }
        if (now.ticks.isEmpty()) {
            return GONE - 3;
        }
        Tick t = now.last();
        long[] all = {t.estimate, t.left, t.out, t.loud, t.power, t.talk ? 1 : 0, t.tone, t.learned ? 1 : 0};
        return all[what];
    }

    long ago(int i, int what) {
        if (!in(i, 0, 31) || !in(what, 0, 2)) {
            return GONE - 2;
        }
        if (i >= now.ticks.size()) {
            return GONE - 6;
        }
        Tick t = now.ticks.get(now.ticks.size() - 1 - i);
        return new long[] {t.far, t.near, t.out}[what];
    }

    long part(int k, int v) {
        if (k == 8 && in(v, 0, 15)) {
            int was = now.lag;
            now.lag = v;
            return was;
        }
        if (!in(k, 0, 7) || !in(v, -1024, 1023)) {
            return GONE - 2;
        }
        long was = now.parts[k];
        now.parts[k] = v;
        return was;
    }

    long speak(int far, int voice) {
        if (!in(far, -1000, 1000) || !in(voice, -2000, 2000)) {
            return GONE - 2;
        }
        speakTo(now, far, voice);
        return now.last().out;
    }

    private static List<Long> leftsOfRun(Kept s, int seed, int n, int loud) {
        List<Long> lefts = new ArrayList<>();
        long z = seed;
        for (int i = 0; i < n; i++) {
            z = (75 * z + 74) % 65537;
            speakTo(s, z % (2L * loud + 1) - loud, 0);
            lefts.add(Math.abs(s.last().left));
        }
        return lefts;
    }

    long run(int seed, int n, int loud) {
        if (!in(seed, 0, 65536) || !in(n, 1, 60) || !in(loud, 0, 1000)) {
            return -2;
        }
        long sum = 0;
        for (long left : leftsOfRun(now, seed, n, loud)) {
            sum += left;
        }
        return sum;
    }

    long learnt(int seed, int loud, int limit) {
        if (!in(seed, 0, 65536) || !in(loud, 0, 1000) || !in(limit, 0, 999)) {
            return -2;
        }
        List<Long> lefts = leftsOfRun(now.copy(), seed, 200, loud);
        for (int n = 8; n <= 200; n++) {
            boolean all = true;
            for (long left : lefts.subList(n - 8, n)) {
                all &= left <= limit;
            }
            if (all) {
                return n;
            }
        }
        return -6;
    }

    long likeness(int d) {
        if (!in(d, 0, 15)) {
            return GONE - 2;
        }
        long sum = 0;
        int n = now.ticks.size();
        for (int t = n - 23; t <= n; t++) {
            sum += now.near(t) * now.far(t - d);
        }
        return sum;
    }

    long seek() {
        int best = -3;
        for (int d = 15; d >= 0; d--) {
            long size = Math.abs(likeness(d));
            if (size > 0 && (best < 0 || size >= Math.abs(likeness(best)))) {
                best = d;
            }
        }
        if (best >= 0) {
            now.rules[4] = best;
            now.taps = new long[8];
        }
        return best;
    }

    long gain(int part) {
        if (!in(part, 0, 1)) {
            return -2;
        }
        long upper = 0;
        long lower = 0;
        int n = now.ticks.size();
        for (Tick t : now.ticks.subList(Math.max(0, n - 32), n)) {
            upper += t.near * t.near;
            lower += t.out * t.out;
        }
        if (lower == 0) {
            return -3;
        }
        long shared = java.math.BigInteger.valueOf(upper).gcd(java.math.BigInteger.valueOf(lower)).longValue();
        return (part == 0 ? upper : lower) / shared;
    }

    private boolean was(int t, int what) {
        if (t < 1) {
            return false;
        }
        Tick tick = now.ticks.get(t - 1);
        return what == 0 ? tick.talk : tick.tone > 0;
    }

    long began(int i, int what) {
        if (!in(what, 0, 1)) {
            return -2;
        }
        List<Integer> found = new ArrayList<>();
        int n = now.ticks.size();
        for (int t = Math.max(1, n - 199); t <= n; t++) {
            if (was(t, what) && !was(t - 1, what)) {
                found.add(t);
            }
        }
        return i == -1 ? found.size() : in(i, 0, found.size() - 1) ? found.get(i) : -6;
    }

    long image(int k) {
        if (!in(k, 0, 1)) {
            return -2;
        }
        images[k] = now.copy();
        return 1;
    }

    long restore(int k) {
        if (!in(k, 0, 1)) {
            return -2;
        }
        if (images[k] == null) {
            return -3;
        }
        now = images[k].copy();
        return 1;
    }

    long count(int what) {
        if (in(what, 10, 14)) {
            return now.rules[what - 10];
        }
        long sizes = 0;
        for (long tap : now.taps) {
            sizes += Math.abs(tap);
        }
        long kept = (images[0] == null ? 0 : 1) + (images[1] == null ? 0 : 2);
        long[] all = {now.ticks.size(), now.hold, now.seed, sizes, now.lag, kept};
        return in(what, 0, 5) ? all[what] : -2;
    }
}
