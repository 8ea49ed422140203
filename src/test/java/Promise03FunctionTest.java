/** Promise 3: function makes functions, or refuses. */
public final class Promise03FunctionTest {
    private static final double NONE = Double.NaN;

    public static void main(String[] args) {
        ShadeRows x = new ShadeRows();
        Check.same("kind -1", x.function(-1, 2.0, 0.0, 1.0, 0.0), 0);
        Check.same("kind 4", x.function(4, 2.0, 0.0, 1.0, 0.0), 0);
        sampled(new ShadeRows());
        power(new ShadeRows());
        stitched(new ShadeRows());
        text(new ShadeRows());
        hasRoomForTwentyFour();
        Check.end("Promise03FunctionTest");
    }

    private static void sampled(ShadeRows x) {
        Check.same("two samples", x.function(0, 2.0, 0.0, 1.0, NONE), 1);
        Check.same("sixteen samples", x.function(0, 16.0, -1000000.0, 1000000.0, NONE), 2);
        Check.same("one sample", x.function(0, 1.0, 0.0, 1.0, 0.0), 0);
        Check.same("seventeen samples", x.function(0, 17.0, 0.0, 1.0, 0.0), 0);
        Check.same("two and a half", x.function(0, 2.5, 0.0, 1.0, 0.0), 0);
        Check.same("no number of samples", x.function(0, NONE, 0.0, 1.0, 0.0), 0);
        Check.same("from is to", x.function(0, 2.0, 1.0, 1.0, 0.0), 0);
        Check.same("from above to", x.function(0, 2.0, 1.0, 0.0, 0.0), 0);
        Check.same("from not good", x.function(0, 2.0, -1000001.0, 1.0, 0.0), 0);
        Check.same("from no number", x.function(0, 2.0, NONE, 1.0, 0.0), 0);
        Check.same("to not good", x.function(0, 2.0, 0.0, 1000001.0, 0.0), 0);
        Check.same("to no number", x.function(0, 2.0, 0.0, NONE, 0.0), 0);
        Check.same("as near as may be", x.function(0, 16.0, 0.0, Double.MIN_VALUE, 0.0), 3);
    }

    private static void power(ShadeRows x) {
        Check.same("power 0", x.function(1, 1000000.0, -1000000.0, 0.0, NONE), 1);
        Check.same("power 12", x.function(1, 0.0, 1.0, 12.0, NONE), 2);
        Check.same("power -1", x.function(1, 0.0, 1.0, -1.0, 0.0), 0);
        Check.same("power 13", x.function(1, 0.0, 1.0, 13.0, 0.0), 0);
        Check.same("power 0.5", x.function(1, 0.0, 1.0, 0.5, 0.0), 0);
        Check.same("power none", x.function(1, 0.0, 1.0, NONE, 0.0), 0);
        Check.same("a not good", x.function(1, 1000000.1, 1.0, 1.0, 0.0), 0);
        Check.same("a none", x.function(1, NONE, 1.0, 1.0, 0.0), 0);
        Check.same("b not good", x.function(1, 0.0, -1000000.1, 1.0, 0.0), 0);
        Check.same("b none", x.function(1, 0.0, NONE, 1.0, 0.0), 0);
    }

    private static void stitched(ShadeRows x) {
        Check.same("of none", x.function(2, 1.0, 1.0, 0.5, 0.0), 0);
        x.function(1, 0.0, 1.0, 1.0, 0.0);
        Check.same("of itself", x.function(2, 1.0, 2.0, 0.5, 0.0), 0);
        Check.same("of itself first", x.function(2, 2.0, 1.0, 0.5, 0.0), 0);
        Check.same("of 0", x.function(2, 0.0, 1.0, 0.5, 0.0), 0);
        Check.same("of -1", x.function(2, 1.0, -1.0, 0.5, 0.0), 0);
        Check.same("of 1.5", x.function(2, 1.5, 1.0, 0.5, 0.0), 0);
        Check.same("of 0.5", x.function(2, 1.0, 0.5, 0.5, 0.0), 0);
        Check.same("of no number", x.function(2, NONE, 1.0, 0.5, 0.0), 0);
        Check.same("bound below", x.function(2, 1.0, 1.0, -0.1, 0.0), 0);
        Check.same("bound above", x.function(2, 1.0, 1.0, 1.1, 0.0), 0);
        Check.same("bound none", x.function(2, 1.0, 1.0, NONE, 0.0), 0);
        Check.same("bound 0.0", x.function(2, 1.0, 1.0, 0.0, NONE), 2);
        Check.same("bound 1.0", x.function(2, 2.0, 1.0, 1.0, NONE), 3);
        Check.same("of a stitched one", x.function(2, 3.0, 2.0, 0.5, NONE), 4);
    }

    private static void text(ShadeRows x) {
        x.text(7, 0.0);
        Check.same("another kind", x.function(1, 0.0, 1.0, 1.0, 0.0), 1);
        Check.same("leaves the steps", x.text(1, 0.0), 2);
        Check.same("text", x.function(3, NONE, NONE, NONE, NONE), 2);
        Check.same("doubled", x.value(2, 4.5), 9.0);
        Check.same("without steps", x.function(3, 0.0, 0.0, 0.0, 0.0), 3);
        Check.same("t itself", x.value(3, -4.5), -4.5);
        x.text(1, 0.0);
        Check.same("wrong", x.function(3, 0.0, 0.0, 0.0, 0.0), 0);
        Check.same("wrong steps are gone", x.function(3, 0.0, 0.0, 0.0, 0.0), 4);
        Check.same("a later text leaves the former alone", x.value(2, 4.5), 9.0);
    }

    private static void hasRoomForTwentyFour() {
        ShadeRows x = new ShadeRows();
        Check.same("function 1", x.function(1, 3.0, 4.0, 1.0, 0.0), 1);
        for (int i = 2; i <= 24; i++) {
            Check.same("function " + i, x.function(2, i - 1, i - 1, 0.0, 0.0), i);
        }
        Check.same("the deepest of them", x.value(24, 0.25), 3.25);
        Check.same("function 25", x.function(1, 0.0, 1.0, 1.0, 0.0), 0);
        Check.same("sampled 25", x.function(0, 2.0, 0.0, 1.0, 0.0), 0);
        Check.same("stitched 25", x.function(2, 1.0, 1.0, 1.0, 0.0), 0);
        x.text(5, 0.0);
        Check.same("text 25", x.function(3, 0.0, 0.0, 0.0, 0.0), 0);
        Check.same("whose steps are gone", x.text(5, 0.0), 1);
        Check.noSuch("none is there", () -> x.value(25, 0.0));
    }
}
