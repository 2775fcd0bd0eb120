/** An EchoTaps that is asked no more than the document promises: 512 calls, then the test itself is wrong. */
final class Counted {
    private static final int CALLS = 512;
    private final EchoTaps x = new EchoTaps();
    private int calls;

    private EchoTaps next() {
        calls++;
        if (calls > CALLS) {
            throw new IllegalStateException("a test asks one object more than " + CALLS + " times");
        }
        return x;
    }

    int rule(int what, int v) {
        return next().rule(what, v);
    }

    int tick(int far, int near) {
        return next().tick(far, near);
    }

    int tap(int k) {
        return next().tap(k);
    }

    int last(int what) {
        return next().last(what);
    }

    int ago(int i, int what) {
        return next().ago(i, what);
    }

    int part(int k, int v) {
        return next().part(k, v);
    }

    int speak(int far, int voice) {
        return next().speak(far, voice);
    }

    int run(int seed, int n, int loud) {
        return next().run(seed, n, loud);
    }

    int learnt(int seed, int loud, int limit) {
        return next().learnt(seed, loud, limit);
    }

    int likeness(int d) {
        return next().likeness(d);
    }

    int seek() {
        return next().seek();
    }

    int gain(int part) {
        return next().gain(part);
    }

    int began(int i, int what) {
        return next().began(i, what);
    }

    int image(int k) {
        return next().image(k);
    }

    int restore(int k) {
        return next().restore(k);
    }

    int count(int what) {
        return next().count(what);
    }
}
