import java.util.Random;

/**
 * Objects of 512 calls each, call by call beside the model; the seed is fixed, so every time is the same.
 * Every other object is asked at chance for fewer calls, and the rest of its 512 look at all that it tells.
 */
public final class ModelTest {
    private static final int OBJECTS = 5000;
    private static final int CALLS = 512;
    private static final int CALLS_AHEAD_OF_LOOK = 130;
    private static final Due DUE = new Due();

    private final Random random;
    private final Counted x = new Counted();
    private final Model m = new Model();
    /** How an object is used, so that quiet, loud, periodic and wrong calls all come often. */
    private final int wrongOf;
    private final int farTop;
    private final int nearTop;
    private final int period;

    private ModelTest(long seed) {
        random = new Random(seed);
        int[] tops = {0, 1, 3, 30, 300, 1000};
        wrongOf = random.nextInt(3) == 0 ? 6 : 60;
        farTop = tops[random.nextInt(tops.length)];
        nearTop = 2 * tops[random.nextInt(tops.length)];
        period = random.nextInt(12);
    }

    public static void main(String[] args) {
        for (int i = 0; i < OBJECTS; i++) {
            ModelTest t = new ModelTest(i);
            boolean looks = i % 2 == 1;
            int calls = looks ? CALLS_AHEAD_OF_LOOK : CALLS;
            for (int c = 0; c < calls; c++) {
                t.call(i);
            }
            if (looks) {
                t.compareAll(i);
            }
        }
        DUE.end("ModelTest");
    }

    /** Mostly of least to most, with their ends often; at times just or far outside. */
    private int pick(int least, int most) {
        if (random.nextInt(wrongOf) == 0) {
            int[] wrong = {least - 1, most + 1, least - 17, most + 1000, Integer.MIN_VALUE, Integer.MAX_VALUE};
            return wrong[random.nextInt(wrong.length)];
        }
        int end = random.nextInt(8);
        return end == 0 ? least : end == 1 ? most : least + random.nextInt(most - least + 1);
    }

    private int someFar() {
        if (random.nextInt(wrongOf) == 0) {
            return pick(-1000, 1000);
        }
        if (period >= 1 && period <= 9 && random.nextInt(40) != 0) {
            int at = (int) m.count(0) % period;
            return at == 0 ? farTop : -at % (farTop + 1);
        }
        return random.nextInt(2 * farTop + 1) - farTop;
    }

    private int someNear() {
        return random.nextInt(wrongOf) == 0 ? pick(-2000, 2000) : random.nextInt(2 * nearTop + 1) - nearTop;
    }

    private void is(int object, String call, long got, long want) {
        DUE.is("object " + object + ": " + call, got, want);
    }

    private void call(int object) {
        int kind = random.nextInt(100);
        if (kind < 35) {
            int a = someFar();
            int b = someNear();
            is(object, "tick(" + a + ", " + b + ")", x.tick(a, b), m.tick(a, b));
        } else if (kind < 55) {
            int a = someFar();
            int b = random.nextInt(4) == 0 ? someNear() : 0;
            is(object, "speak(" + a + ", " + b + ")", x.speak(a, b), m.speak(a, b));
        } else if (kind < 75) {
            change(object, kind - 55);
        } else {
            ask(object);
        }
    }

    private void change(int object, int kind) {
        if (kind < 6) {
            int[] most = {1024, 20, 500, 50, 15};
            int a = pick(0, 4);
            int b = pick(0, a >= 0 && a < 5 ? most[a] : 9);
            is(object, "rule(" + a + ", " + b + ")", x.rule(a, b), m.rule(a, b));
        } else if (kind < 13) {
            int a = pick(0, 8);
            int b = a == 8 ? pick(0, 15) : pick(-1024, 1023);
            is(object, "part(" + a + ", " + b + ")", x.part(a, b), m.part(a, b));
        } else if (kind < 16) {
            int a = pick(0, 65536);
            int b = pick(1, 60);
            int c = random.nextBoolean() ? farTop : pick(0, 1000);
            is(object, "run(" + a + ", " + b + ", " + c + ")", x.run(a, b, c), m.run(a, b, c));
        } else if (kind < 17) {
            is(object, "seek()", x.seek(), m.seek());
        } else if (kind < 18) {
            int a = pick(0, 1);
            is(object, "restore(" + a + ")", x.restore(a), m.restore(a));
        } else {
            int a = pick(0, 1);
            is(object, "image(" + a + ")", x.image(a), m.image(a));
        }
    }

    private void ask(int object) {
        int a;
        int b;
        switch (random.nextInt(8)) {
            case 0:
                a = pick(0, 7);
                is(object, "tap(" + a + ")", x.tap(a), m.tap(a));
                break;
            case 1:
                a = pick(0, 7);
                is(object, "last(" + a + ")", x.last(a), m.last(a));
                break;
            case 2:
                a = pick(0, 31);
                b = pick(0, 2);
                is(object, "ago(" + a + ", " + b + ")", x.ago(a, b), m.ago(a, b));
                break;
            case 3:
                a = pick(0, 65536);
                b = random.nextBoolean() ? farTop : pick(0, 1000);
                int c = random.nextInt(3) == 0 ? pick(0, 999) : random.nextInt(30);
                is(object, "learnt(" + a + ", " + b + ", " + c + ")", x.learnt(a, b, c), m.learnt(a, b, c));
                break;
            case 4:
                a = pick(0, 15);
                is(object, "likeness(" + a + ")", x.likeness(a), m.likeness(a));
                break;
            case 5:
                a = pick(0, 1);
                is(object, "gain(" + a + ")", x.gain(a), m.gain(a));
                break;
            case 6:
                a = pick(-1, 12);
                b = pick(0, 1);
                is(object, "began(" + a + ", " + b + ")", x.began(a, b), m.began(a, b));
                break;
            default:
                a = pick(0, 14);
                is(object, "count(" + a + ")", x.count(a), m.count(a));
        }
    }

    private void compareAll(int object) {
        for (int i = -1; i <= 15; i++) {
            is(object, "at last count(" + i + ")", x.count(i), m.count(i));
            is(object, "at last tap(" + i + ")", x.tap(i), m.tap(i));
            is(object, "at last last(" + i + ")", x.last(i), m.last(i));
            is(object, "at last likeness(" + i + ")", x.likeness(i), m.likeness(i));
        }
        for (int what = 0; what < 3; what++) {
            for (int i = 0; i < 33; i++) {
                is(object, "at last ago(" + i + ", " + what + ")", x.ago(i, what), m.ago(i, what));
            }
            is(object, "at last gain(" + what + ")", x.gain(what), m.gain(what));
        }
        for (int what = 0; what < 2; what++) {
            for (int i = -2; i < 101; i++) {
                is(object, "at last began(" + i + ", " + what + ")", x.began(i, what), m.began(i, what));
            }
        }
    }
}
