/** Counts answers that are not the ones that are due, and prints the first of them. */
final class Due {
    private static final int SHOWN = 200;
    private int asked;
    private int wrong;

    void is(String call, long got, long want) {
        asked++;
        if (got != want) {
            wrong++;
            // One fault can make millions of wrong answers beside the model.
            if (wrong <= SHOWN) {
                System.out.println(call + " answered " + got + ", due is " + want);
            }
        }
    }

    void holds(String what, boolean so) {
        is(what, so ? 1 : 0, 1);
    }

    /** Ends the test: with exit code 1, if an answer was wrong or none was asked for. */
    void end(String test) {
        System.out.println(test + ": " + asked + " asked, " + wrong + " wrong");
        if (wrong > 0 || asked == 0) {
            System.exit(1);
        }
    }
}
