/**
 * The edges of promises 1 and 15 to 17, a test for each sentence of the document that names one.
 * What is refused is in RefusalsTest.
 */
public final class ImageEdgesTest {
    private static final int STATE = -3;
    private static final Due DUE = new Due();

    public static void main(String[] args) {
        neverKept();
        keptWithoutATick();
        imageChangesNothingElse();
        keptAnew();
        restoredTwice();
        imageStaysBehindRestore();
        imagesAreNotKeptInImages();
        imagesAreApart();
        restoredGoesOnAsThen();
        restoredIsWhole();
        restoredForgetsLaterTicks();
        countsOfImages();
        countsAtTheirEnds();
        countOfManyTicks();
        DUE.end("ImageEdgesTest");
    }

    /** "no IMAGE is kept"; "STATE: nothing was kept in it". */
    private static void neverKept() {
        Counted x = new Counted();
        DUE.is("IMAGES at first", x.count(5), 0);
        DUE.is("restore(0) at first", x.restore(0), STATE);
        DUE.is("restore(1) at first", x.restore(1), STATE);
        x.tick(5, 6);
        DUE.is("image(1)", x.image(1), 1);
        x.tick(7, 8);
        DUE.is("restore(0) with only 1", x.restore(0), STATE);
        DUE.is("TICKS behind it", x.count(0), 2);
        DUE.is("FAR behind it", x.ago(0, 0), 7);
        DUE.is("restore(1)", x.restore(1), 1);
        DUE.is("TICKS of it", x.count(0), 1);
        DUE.is("restore(0) still", x.restore(0), STATE);
        Counted y = new Counted();
        y.image(0);
        DUE.is("restore(1) with only 0", y.restore(1), STATE);
    }

    /** An IMAGE of a new object is one that was kept. */
    private static void keptWithoutATick() {
        Counted x = new Counted();
        DUE.is("image(0) at first", x.image(0), 1);
        DUE.is("restore(0) at once", x.restore(0), 1);
        DUE.is("TICKS", x.count(0), 0);
        use(x);
        DUE.is("restore(0)", x.restore(0), 1);
        Look.same(DUE, "as at first:", x, new Counted());
        DUE.is("last(2) as at first", x.last(2), -1000000003);
        DUE.is("ago(0, 1) as at first", x.ago(0, 1), -1000000006);
        DUE.is("seek() as at first", x.seek(), STATE);
    }

    private static void use(Counted x) {
        x.rule(0, 900);
        x.rule(1, 7);
        x.rule(2, 45);
        x.rule(3, 12);
        x.rule(4, 3);
        for (int k = 0; k < 8; k++) {
            x.part(k, 300 - 90 * k);
        }
        x.part(8, 2);
        x.run(65536, 18, 700);
        x.run(5, 50, 900);
        x.tick(1, -2000);
    }

    private static void useOtherwise(Counted x) {
        x.rule(0, 100);
        x.rule(1, 2);
        x.rule(2, 400);
        x.rule(3, 50);
        x.rule(4, 11);
        for (int k = 0; k < 8; k++) {
            x.part(k, 7 * k - 30);
        }
        x.part(8, 14);
        x.run(6, 60, 30);
        x.run(65536, 60, 1000);
        x.run(7, 60, 1000);
        x.run(8, 60, 3);
        x.run(9, 60, 0);
        x.tick(3, 2000);
        x.tick(4, 2000);
    }

    private static void imageChangesNothingElse() {
        Counted x = new Counted();
        Counted y = new Counted();
        use(x);
        use(y);
        DUE.is("image(0)", x.image(0), 1);
        DUE.is("image(1)", x.image(1), 1);
        Look.same(DUE, "behind image:", x, y);
    }

    /** "is kept in an IMAGE (0, 1), in place of what was kept there". */
    private static void keptAnew() {
        for (int k = 0; k < 2; k++) {
            Counted x = new Counted();
            x.tick(10, 1);
            DUE.is("image(" + k + ")", x.image(k), 1);
            x.tick(20, 2);
            DUE.is("image(" + k + ") anew", x.image(k), 1);
            x.tick(30, 3);
            DUE.is("restore(" + k + ")", x.restore(k), 1);
            DUE.is("TICKS", x.count(0), 2);
            DUE.is("FAR", x.ago(0, 0), 20);
            DUE.is("IMAGES", x.count(5), 1 << k);
            DUE.is("the other", x.restore(1 - k), STATE);
        }
    }

    /** "All but IMAGES is as it was when it was kept; the IMAGE stays". */
    private static void restoredTwice() {
        Counted x = new Counted();
        Counted y = new Counted();
        use(x);
        use(y);
        x.image(1);
        useOtherwise(x);
        DUE.is("restore(1)", x.restore(1), 1);
        useOtherwise(x);
        DUE.is("restore(1) once more", x.restore(1), 1);
        DUE.is("restore(1) at once again", x.restore(1), 1);
        Look.same(DUE, "restored twice:", x, y);
        DUE.is("IMAGES", x.count(5), 2);
    }

    private static void imageStaysBehindRestore() {
        Counted x = new Counted();
        x.tick(100, 10);
        x.image(0);
        for (int i = 0; i < 5; i++) {
            DUE.is("restore " + i, x.restore(0), 1);
            DUE.is("TICKS " + i, x.count(0), 1);
            DUE.is("tap(0) " + i, x.tap(0), 51);
            DUE.is("STEP " + i, x.rule(0, 1000 + i), 512);
            DUE.is("PART " + i, x.part(3, 200 + i), 0);
            x.speak(900, 300);
            x.run(i, 60, 1000);
        }
    }

    private static void imagesAreNotKeptInImages() {
        Counted x = new Counted();
        x.tick(10, 1);
        x.image(0);
        x.tick(20, 2);
        x.image(1);
        DUE.is("IMAGES", x.count(5), 3);
        DUE.is("restore(0), kept ahead of image(1)", x.restore(0), 1);
        DUE.is("IMAGES stay", x.count(5), 3);
        DUE.is("restore(1) then", x.restore(1), 1);
        DUE.is("TICKS of 1", x.count(0), 2);
        x.tick(30, 3);
        x.image(0);
        DUE.is("restore(1), kept ahead of image(0) anew", x.restore(1), 1);
        DUE.is("restore(0) then", x.restore(0), 1);
        DUE.is("TICKS of 0 anew", x.count(0), 3);
    }

    private static void imagesAreApart() {
        Counted x = new Counted();
        x.tick(10, 1);
        x.image(0);
        x.tick(20, 2);
        x.image(1);
        x.restore(0);
        x.image(1);
        x.tick(40, 4);
        x.tick(50, 5);
        x.image(0);
        DUE.is("restore(1)", x.restore(1), 1);
        DUE.is("1 is what 0 was", x.count(0), 1);
        DUE.is("restore(0)", x.restore(0), 1);
        DUE.is("0 is kept anew", x.ago(0, 0), 50);
        DUE.is("0 has its TICKS", x.count(0), 3);
    }

    /** Whatever is hidden comes to light by what follows. */
    private static void restoredGoesOnAsThen() {
        Counted x = new Counted();
        Counted y = new Counted();
        use(x);
        use(y);
        x.image(0);
        useOtherwise(x);
        x.restore(0);
        DUE.is("learnt", x.learnt(31, 800, 20), y.learnt(31, 800, 20));
        for (int i = 0; i < 24; i++) {
            DUE.is("speak " + i, x.speak(37 * i - 400, 5 * i), y.speak(37 * i - 400, 5 * i));
            DUE.is("LOUD " + i, x.last(3), y.last(3));
            DUE.is("POWER " + i, x.last(4), y.last(4));
        }
        DUE.is("run", x.run(31, 60, 800), y.run(31, 60, 800));
        Look.same(DUE, "later:", x, y);
    }

    /** Every number of the state is another one in between. */
    private static void restoredIsWhole() {
        Counted x = new Counted();
        Counted y = new Counted();
        useOtherwise(x);
        useOtherwise(y);
        x.image(0);
        use(x);
        x.image(1);
        x.restore(0);
        Look.same(DUE, "the first:", x, y);
        Counted z = new Counted();
        useOtherwise(z);
        use(z);
        x.restore(1);
        Look.same(DUE, "the second:", x, z);
    }

    private static void restoredForgetsLaterTicks() {
        Counted x = new Counted();
        x.tick(0, 1);
        x.tick(0, 0);
        x.image(0);
        for (int t = 0; t < 20; t++) {
            x.tick(900, 2000);
        }
        x.run(1, 60, 1000);
        DUE.is("restore(0)", x.restore(0), 1);
        DUE.is("ago(2, 0)", x.ago(2, 0), -1000000006);
        DUE.is("how many TALKS", x.began(-1, 0), 1);
        DUE.is("how many TONES", x.began(-1, 1), 0);
        DUE.is("likeness(0)", x.likeness(0), 0);
        x.tick(2, 0);
        DUE.is("LOUD", x.last(3), 2);
        DUE.is("POWER", x.last(4), 4);
        DUE.is("TICKS", x.count(0), 3);
    }

    /** "which IMAGES are kept, a set: bits 0, 1 (5)". */
    private static void countsOfImages() {
        Counted x = new Counted();
        DUE.is("none", x.count(5), 0);
        x.image(2);
        x.image(-1);
        DUE.is("none by refusals", x.count(5), 0);
        x.image(0);
        DUE.is("0", x.count(5), 1);
        x.image(0);
        DUE.is("0 twice", x.count(5), 1);
        x.image(1);
        DUE.is("both", x.count(5), 3);
        x.restore(1);
        DUE.is("both behind restore", x.count(5), 3);
        Counted y = new Counted();
        y.image(1);
        DUE.is("1", y.count(5), 2);
    }

    /** "HOLD (1), SEED (2), the sizes of all TAPS, added (3), LAG (4), ... RULES (10 to 14)". */
    private static void countsAtTheirEnds() {
        Counted x = new Counted();
        x.rule(0, 1024);
        x.rule(1, 0);
        for (int k = 0; k < 8; k++) {
            x.tick(k == 0 ? 1 : 0, -2000);
            DUE.is("sizes of " + (k + 1) + " TAPS at -4096", x.count(3), 4096 * (k + 1));
        }
        Counted y = new Counted();
        y.rule(0, 1024);
        y.rule(1, 0);
        for (int k = 0; k < 8; k++) {
            y.tick(k == 0 ? 1 : 0, k % 2 == 0 ? 2000 : -2000);
        }
        DUE.is("sizes of TAPS at both ends", y.count(3), 4 * 4095 + 4 * 4096);
        y.rule(1, 20);
        y.tick(0, 2000);
        DUE.is("HOLD", y.count(1), 20);
        y.part(8, 15);
        DUE.is("LAG", y.count(4), 15);
        int[] most = {1024, 20, 500, 50, 15};
        for (int r = 0; r < 5; r++) {
            y.rule(r, most[r]);
        }
        for (int r = 0; r < 5; r++) {
            DUE.is("count(" + (10 + r) + ")", y.count(10 + r), most[r]);
        }
        int[] outside = {-1, 6, 9, 15};
        for (int what : outside) {
            DUE.is("count(" + what + ")", y.count(what), -2);
        }
    }

    private static void countOfManyTicks() {
        Counted x = new Counted();
        x.part(0, 400);
        for (int i = 1; i <= 500; i++) {
            x.run(i, 60, 1000);
        }
        DUE.is("TICKS of 500 RUNS", x.count(0), 30000);
        DUE.is("FAR of the last", x.ago(0, 0), farOf(500, 60));
        DUE.is("FAR of 31 ago", x.ago(31, 0), farOf(500, 29));
    }

    private static int farOf(int seed, int n) {
        int z = seed;
        for (int i = 0; i < n; i++) {
            z = (75 * z + 74) % 65537;
        }
        return z % 2001 - 1000;
    }
}
