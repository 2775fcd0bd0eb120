/** Asks two objects for all that can be asked without a change, and tells where they differ. */
final class Look {
    private Look() {
    }

    /** All but which IMAGES are kept. */
    static void same(Due due, String when, Counted x, Counted y) {
        sameCounts(due, when, x, y);
        sameTicks(due, when, x, y);
        sameParts(due, when, x, y);
        sameWhere(due, when, x, y);
    }

    static void sameWithImages(Due due, String when, Counted x, Counted y) {
        same(due, when, x, y);
        due.is(when + " count(5)", x.count(5), y.count(5));
    }

    private static void sameCounts(Due due, String when, Counted x, Counted y) {
        int[] asked = {0, 1, 2, 3, 4, 10, 11, 12, 13, 14};
        for (int what : asked) {
            due.is(when + " count(" + what + ")", x.count(what), y.count(what));
        }
        for (int k = 0; k < 8; k++) {
            due.is(when + " tap(" + k + ")", x.tap(k), y.tap(k));
            due.is(when + " last(" + k + ")", x.last(k), y.last(k));
        }
    }

    private static void sameTicks(Due due, String when, Counted x, Counted y) {
        for (int i = 0; i < 32; i++) {
            for (int what = 0; what < 3; what++) {
                due.is(when + " ago(" + i + ", " + what + ")", x.ago(i, what), y.ago(i, what));
            }
        }
    }

    /** A PART is told only by the call that sets it, so each is set and put back. */
    private static void sameParts(Due due, String when, Counted x, Counted y) {
        for (int k = 0; k <= 8; k++) {
            int ofX = x.part(k, 0);
            int ofY = y.part(k, 0);
            x.part(k, ofX);
            y.part(k, ofY);
            due.is(when + " part " + k, ofX, ofY);
        }
    }

    private static void sameWhere(Due due, String when, Counted x, Counted y) {
        for (int d = 0; d < 16; d++) {
            due.is(when + " likeness(" + d + ")", x.likeness(d), y.likeness(d));
        }
        for (int what = 0; what < 2; what++) {
            due.is(when + " gain(" + what + ")", x.gain(what), y.gain(what));
            int many = y.began(-1, what);
            due.is(when + " began(-1, " + what + ")", x.began(-1, what), many);
            for (int i = 0; i < many; i++) {
                due.is(when + " began(" + i + ", " + what + ")", x.began(i, what), y.began(i, what));
            }
        }
    }
}
