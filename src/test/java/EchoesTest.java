/** Promises 7 to 10: part, speak, run, learnt. */
public final class EchoesTest {
    private static final int OUT = -1000000002;
    private static final Due DUE = new Due();

    public static void main(String[] args) {
        parts();
        speakByHand();
        speakIsLimited();
        echoComesByLag();
        runIsSpeaking();
        runRefusals();
        learntIsTheLeast();
        learntEndsAt200();
        learntChangesNothing();
        learntRefusals();
        DUE.end("EchoesTest");
    }

    private static void parts() {
        Counted x = new Counted();
        for (int k = 0; k < 8; k++) {
            DUE.is("part(" + k + ", 1024)", x.part(k, 1024), OUT);
            DUE.is("part(" + k + ", -1025)", x.part(k, -1025), OUT);
            DUE.is("part(" + k + ", -1024)", x.part(k, -1024), 0);
            DUE.is("part(" + k + ", 1023)", x.part(k, 1023), -1024);
            DUE.is("part(" + k + ", 5)", x.part(k, 5), 1023);
        }
        DUE.is("part(8, 16)", x.part(8, 16), OUT);
        DUE.is("part(8, -1)", x.part(8, -1), OUT);
        DUE.is("part(8, 15)", x.part(8, 15), 0);
        DUE.is("LAG", x.count(4), 15);
        DUE.is("part(8, 0)", x.part(8, 0), 15);
        int[] wrong = {-1, 9, Integer.MIN_VALUE, Integer.MAX_VALUE};
        for (int w : wrong) {
            DUE.is("part(" + w + ", 0)", x.part(w, 0), OUT);
        }
        DUE.is("part(0, least int)", x.part(0, Integer.MIN_VALUE), OUT);
        DUE.is("part(0, 5)", x.part(0, 5), 5);
    }

    private static void speakByHand() {
        Counted x = new Counted();
        x.part(0, -300);
        x.part(1, 700);
        x.speak(1000, 10);
        // -300000 / 1024 = -292.9
        DUE.is("NEAR", x.ago(0, 1), -292 + 10);
        DUE.is("FAR", x.ago(0, 0), 1000);
        x.speak(-500, -7);
        // (150000 + 700000) / 1024 = 830.07
        DUE.is("NEAR", x.ago(0, 1), 830 - 7);
        DUE.is("speak answers OUT", x.speak(1, 1), x.last(2));
        DUE.is("ticks", x.count(0), 3);
        int[][] wrong = {{1001, 0}, {-1001, 0}, {0, 2001}, {0, -2001}, {Integer.MIN_VALUE, 0}, {0, Integer.MAX_VALUE}};
        for (int[] w : wrong) {
            DUE.is("speak(" + w[0] + ", " + w[1] + ")", x.speak(w[0], w[1]), OUT);
        }
        DUE.is("ticks after refusals", x.count(0), 3);
        DUE.is("FAR after refusals", x.ago(0, 0), 1);
    }

    private static void speakIsLimited() {
        Counted x = new Counted();
        for (int k = 0; k < 8; k++) {
            x.part(k, -1024);
        }
        x.speak(1000, -2000);
        DUE.is("NEAR of -3000", x.ago(0, 1), -2000);
        x.speak(1000, 0);
        DUE.is("NEAR of -2000", x.ago(0, 1), -2000);
        x.speak(-1000, 2000);
        DUE.is("NEAR of 1000", x.ago(0, 1), 1000);
        for (int i = 0; i < 8; i++) {
            x.speak(-1000, 0);
        }
        DUE.is("NEAR of 8000", x.ago(0, 1), 2000);
        x.speak(-1000, -2000);
        DUE.is("the sum is limited, not the ECHO", x.ago(0, 1), 2000);
    }

    private static void echoComesByLag() {
        for (int lag = 0; lag <= 15; lag++) {
            for (int k = 0; k < 8; k += 7) {
                Counted x = new Counted();
                x.part(k, 512);
                x.part(8, lag);
                for (int t = 0; t <= 23; t++) {
                    x.speak(t == 0 ? 1000 : 0, 0);
                    DUE.is("ECHO by " + k + ", " + lag + " at " + t, x.ago(0, 1), t == k + lag ? 500 : 0);
                }
            }
        }
    }

    private static Counted withWay() {
        Counted x = new Counted();
        x.part(0, 400);
        x.part(1, -150);
        x.part(5, 60);
        x.part(8, 2);
        x.rule(4, 2);
        x.rule(2, 30);
        x.rule(3, 6);
        return x;
    }

    private static void runIsSpeaking() {
        Counted x = withWay();
        Counted y = withWay();
        int[][] runs = {{0, 60, 1000}, {65536, 1, 7}, {12345, 33, 0}, {99, 60, 500}};
        for (int[] r : runs) {
            int z = r[0];
            int sum = 0;
            for (int i = 0; i < r[1]; i++) {
                z = (75 * z + 74) % 65537;
                y.speak(z % (2 * r[2] + 1) - r[2], 0);
                sum += Math.abs(y.last(1));
            }
            DUE.is("run(" + r[0] + ", " + r[1] + ", " + r[2] + ")", x.run(r[0], r[1], r[2]), sum);
            for (int k = 0; k < 8; k++) {
                DUE.is("tap(" + k + ") behind a run", x.tap(k), y.tap(k));
                DUE.is("last(" + k + ") behind a run", x.last(k), y.last(k));
            }
            DUE.is("SEED behind a run", x.count(2), y.count(2));
            DUE.is("ticks behind a run", x.count(0), y.count(0));
        }
    }

    private static void runRefusals() {
        Counted x = new Counted();
        int[][] wrong = {{-1, 1, 0}, {65537, 1, 0}, {0, 0, 0}, {0, 61, 0}, {0, -1, 0}, {0, 1, -1}, {0, 1, 1001},
            {Integer.MIN_VALUE, 1, 0}, {0, Integer.MAX_VALUE, 0}, {0, 1, Integer.MIN_VALUE}};
        for (int[] w : wrong) {
            DUE.is("run(" + w[0] + ", " + w[1] + ", " + w[2] + ")", x.run(w[0], w[1], w[2]), -2);
        }
        DUE.is("ticks after refusals", x.count(0), 0);
    }

    /** The least n found by running image by image, TICK by TICK. */
    private static int leastBySpeaking(Counted y, int seed, int loud, int limit) {
        int z = seed;
        int calm = 0;
        int found = -6;
        y.image(0);
        for (int n = 1; n <= 200 && found < 0; n++) {
            z = (75 * z + 74) % 65537;
            y.speak(z % (2 * loud + 1) - loud, 0);
            calm = Math.abs(y.last(1)) <= limit ? calm + 1 : 0;
            found = calm >= 8 ? n : -6;
        }
        y.restore(0);
        return found;
    }

    private static void learntIsTheLeast() {
        int[] limits = {0, 1, 2, 5, 20, 100, 300, 999};
        for (int limit : limits) {
            Counted x = withWay();
            Counted y = withWay();
            DUE.is("learnt(5, 900, " + limit + ")", x.learnt(5, 900, limit), leastBySpeaking(y, 5, 900, limit));
            x.run(1, 10, 800);
            Counted later = withWay();
            later.run(1, 10, 800);
            DUE.is("later learnt(0, 1000, " + limit + ")", x.learnt(0, 1000, limit), leastBySpeaking(later, 0, 1000, limit));
        }
        Counted z = new Counted();
        DUE.is("nothing to learn", z.learnt(65536, 1000, 0), 8);
        z.run(1, 60, 1000);
        DUE.is("calm ahead of now does not count", z.learnt(1, 1000, 0), 8);
        z.part(0, 1023);
        z.rule(0, 0);
        DUE.is("never learnt", z.learnt(1, 1000, 0), -6);
    }

    /** Nothing is learnt, so that LEFT is 1023 * FAR / 1024; the seeds were sought apart from the class. */
    private static void learntEndsAt200() {
        Counted x = new Counted();
        x.rule(0, 0);
        x.part(0, 1023);
        DUE.is("learnt by 199", x.learnt(144, 1000, 500), 199);
        DUE.is("learnt by 200", x.learnt(1359, 1000, 500), 200);
        DUE.is("learnt by 201", x.learnt(976, 1000, 500), -6);
    }

    private static void learntChangesNothing() {
        Counted x = withWay();
        Counted y = withWay();
        x.run(17, 40, 700);
        y.run(17, 40, 700);
        x.learnt(3, 1000, 0);
        for (int k = 0; k < 8; k++) {
            DUE.is("tap(" + k + ") behind learnt", x.tap(k), y.tap(k));
            DUE.is("last(" + k + ") behind learnt", x.last(k), y.last(k));
        }
        for (int i = 0; i <= 5; i++) {
            DUE.is("count(" + i + ") behind learnt", x.count(i), y.count(i));
        }
        for (int i = 0; i < 32; i++) {
            for (int what = 0; what < 3; what++) {
                DUE.is("ago behind learnt", x.ago(i, what), y.ago(i, what));
            }
        }
        DUE.is("began behind learnt", x.began(-1, 0), y.began(-1, 0));
        DUE.is("restore behind learnt", x.restore(0), -3);
        DUE.is("run behind learnt", x.run(3, 60, 1000), y.run(3, 60, 1000));
    }

    private static void learntRefusals() {
        Counted x = new Counted();
        int[][] wrong = {{-1, 0, 0}, {65537, 0, 0}, {0, -1, 0}, {0, 1001, 0}, {0, 0, -1}, {0, 0, 1000},
            {Integer.MAX_VALUE, 0, 0}, {0, Integer.MIN_VALUE, 0}, {0, 0, Integer.MIN_VALUE}};
        for (int[] w : wrong) {
            DUE.is("learnt(" + w[0] + ", " + w[1] + ", " + w[2] + ")", x.learnt(w[0], w[1], w[2]), -2);
        }
        DUE.is("learnt(65536, 1000, 999)", x.learnt(65536, 1000, 999), 8);
    }
}
