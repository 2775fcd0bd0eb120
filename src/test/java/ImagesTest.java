/** Promises 15 to 17: image, restore, count. */
public final class ImagesTest {
    private static final Due DUE = new Due();

    public static void main(String[] args) {
        refusals();
        keepsAll();
        twoImages();
        imageStays();
        counts();
        DUE.end("ImagesTest");
    }

    private static void refusals() {
        Counted x = new Counted();
        int[] wrong = {-1, 2, 32, 33, Integer.MIN_VALUE, Integer.MAX_VALUE};
        for (int w : wrong) {
            DUE.is("image(" + w + ")", x.image(w), -2);
            DUE.is("restore(" + w + ")", x.restore(w), -2);
        }
        DUE.is("IMAGES after refusals", x.count(5), 0);
        DUE.is("restore(0)", x.restore(0), -3);
        DUE.is("image(0)", x.image(0), 1);
        DUE.is("restore(1)", x.restore(1), -3);
        DUE.is("restore(0) then", x.restore(0), 1);
    }

    private static void prepare(Counted x) {
        x.rule(0, 700);
        x.rule(1, 2);
        x.rule(2, 60);
        x.rule(3, 20);
        x.rule(4, 1);
        x.part(0, 333);
        x.part(7, -444);
        x.part(8, 1);
        x.run(11, 50, 600);
        x.tick(0, 2000);
    }

    private static void disturb(Counted x) {
        int[] rules = {1, 20, 300, 5, 9};
        for (int r = 0; r < 5; r++) {
            x.rule(r, rules[r]);
        }
        for (int k = 0; k < 8; k++) {
            x.part(k, 100 + k);
        }
        x.part(8, 7);
        x.run(5, 60, 1000);
        x.run(6, 60, 0);
        x.run(7, 60, 10);
        x.run(8, 60, 900);
        x.run(9, 60, 0);
        for (int i = 0; i < 20; i++) {
            x.tick(400, 1);
        }
    }

    private static void sameLater(Counted x, Counted y) {
        for (int k = 0; k < 9; k++) {
            DUE.is("part(" + k + ", 1)", x.part(k, 1), y.part(k, 1));
        }
        DUE.is("run later", x.run(23, 60, 1000), y.run(23, 60, 1000));
        DUE.is("learnt later", x.learnt(23, 1000, 9), y.learnt(23, 1000, 9));
        DUE.is("seek later", x.seek(), y.seek());
    }

    private static void keepsAll() {
        Counted x = new Counted();
        Counted y = new Counted();
        prepare(x);
        prepare(y);
        x.image(1);
        disturb(x);
        DUE.is("restore(1)", x.restore(1), 1);
        Look.same(DUE, "restored:", x, y);
        sameLater(x, y);
    }

    private static void twoImages() {
        Counted x = new Counted();
        x.image(0);
        prepare(x);
        x.image(1);
        disturb(x);
        DUE.is("IMAGES", x.count(5), 3);
        x.restore(0);
        Look.same(DUE, "the first:", x, new Counted());
        DUE.is("IMAGES stay", x.count(5), 3);
        Counted y = new Counted();
        prepare(y);
        x.restore(1);
        Look.same(DUE, "the second:", x, y);
    }

    private static void imageStays() {
        Counted x = new Counted();
        x.tick(100, 10);
        x.image(0);
        x.tick(200, 20);
        x.restore(0);
        x.tick(300, 30);
        x.restore(0);
        DUE.is("ticks", x.count(0), 1);
        DUE.is("FAR", x.ago(0, 0), 100);
        x.tick(300, 30);
        DUE.is("image(0) anew", x.image(0), 1);
        x.tick(400, 40);
        x.restore(0);
        DUE.is("FAR anew", x.ago(0, 0), 300);
        DUE.is("IMAGES", x.count(5), 1);
    }

    private static void counts() {
        Counted x = new Counted();
        int[] wrong = {-1, 6, 7, 8, 9, 15, Integer.MIN_VALUE, Integer.MAX_VALUE};
        for (int w : wrong) {
            DUE.is("count(" + w + ")", x.count(w), -2);
        }
        x.image(1);
        DUE.is("count(5)", x.count(5), 2);
        x.part(8, 13);
        DUE.is("count(4)", x.count(4), 13);
        x.rule(1, 0);
        x.rule(0, 1024);
        x.tick(1000, 500);
        x.tick(1000, -500);
        DUE.is("count(0)", x.count(0), 2);
        // TAP 0 is 512 by the first; then LEFT is -1000, and both lose 512.
        DUE.is("tap(0)", x.tap(0), 0);
        DUE.is("tap(1)", x.tap(1), -512);
        DUE.is("count(3)", x.count(3), 512);
        x.rule(1, 11);
        x.tick(0, 2000);
        DUE.is("count(1)", x.count(1), 11);
        for (int r = 0; r < 5; r++) {
            x.rule(r, 2 + r);
            DUE.is("count(1" + r + ")", x.count(10 + r), 2 + r);
        }
    }
}
