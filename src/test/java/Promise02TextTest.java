/** Promise 2: text collects steps. */
public final class Promise02TextTest {
    public static void main(String[] args) {
        countsAndRefuses();
        hasRoomForTwentyFour();
        tellsWhatIsRight();
        Check.end("Promise02TextTest");
    }

    private static void countsAndRefuses() {
        ShadeRows x = new ShadeRows();
        for (int op = 0; op <= 13; op++) {
            Check.same("step " + op, x.text(op, 0.5), op + 1);
        }
        Check.same("op -1", x.text(-1, 0.0), 0);
        Check.same("op 14", x.text(14, 0.0), 0);
        Check.same("op least", x.text(Integer.MIN_VALUE, 0.0), 0);
        Check.same("op most", x.text(Integer.MAX_VALUE, 0.0), 0);
        Check.same("not good", x.text(0, 1000000.5), 0);
        Check.same("not good below", x.text(0, -1000000.5), 0);
        Check.same("no number", x.text(0, Double.NaN), 0);
        Check.same("no end", x.text(0, Double.POSITIVE_INFINITY), 0);
        Check.same("not good, of a step that has no number", x.text(5, Double.NaN), 0);
        Check.same("just good", x.text(0, 1000000.0), 15);
        Check.same("just good below", x.text(0, -1000000.0), 16);
    }

    private static void hasRoomForTwentyFour() {
        ShadeRows x = new ShadeRows();
        for (int i = 1; i <= 24; i++) {
            Check.same("step " + i, x.text(5, 0.0), i);
        }
        Check.same("step 25", x.text(5, 0.0), 0);
        Check.same("step 26", x.text(5, 0.0), 0);
        Check.same("twenty-four times changed", x.function(3, 0.0, 0.0, 0.0, 0.0), 1);
        Check.same("is as before", x.value(1, 7.0), 7.0);
        Check.same("and they are gone", x.text(5, 0.0), 1);
    }

    private static void tellsWhatIsRight() {
        Check.same("nothing at all", made(), 1);
        Check.same("one too few left", made(9), 0);
        Check.same("one too many left", made(0), 0);
        Check.same("dropped and put", made(9, 0), 1);
        int[] takes = {0, 2, 2, 2, 2, 1, 1, 1, 2, 1, 2, 3, 1, 1};
        int[] puts = {1, 1, 1, 1, 1, 1, 1, 2, 2, 0, 1, 1, 1, 1};
        for (int op = 0; op <= 13; op++) {
            for (int depth = 0; depth <= 8; depth++) {
                int after = depth - takes[op] + puts[op];
                boolean right = depth >= takes[op] && after <= 8;
                Check.same("step " + op + " on " + depth, madeOn(depth, op, after), right ? 1 : 0);
            }
        }
    }

    private static int made(int... ops) {
        ShadeRows x = new ShadeRows();
        for (int op : ops) {
            x.text(op, 0.0);
        }
        int number = x.function(3, 0.0, 0.0, 0.0, 0.0);
        Check.same("the steps are gone", x.text(5, 0.0), 1);
        return number;
    }

    /** A text that has that many numbers before the step, and is brought to one behind it. */
    private static int madeOn(int depth, int op, int after) {
        ShadeRows x = new ShadeRows();
        x.text(9, 0.0);
        for (int i = 0; i < depth; i++) {
            x.text(0, i);
        }
        x.text(op, 0.0);
        for (int i = after; i > 1; i--) {
            x.text(9, 0.0);
        }
        if (after < 1) {
            x.text(0, 0.0);
        }
        return x.function(3, 0.0, 0.0, 0.0, 0.0);
    }
}
