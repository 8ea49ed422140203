/** Promise 6: the error of the latest value(). */
public final class Promise06ErrorTest {
    public static void main(String[] args) {
        eachKind();
        theFirstOne();
        theLatestValue();
        Check.end("Promise06ErrorTest");
    }

    private static int errorOf(ShadeRows x, int function, double t) {
        x.value(function, t);
        return x.error();
    }

    private static void eachKind() {
        ShadeRows x = new ShadeRows();
        Check.same("at first", x.error(), 0);
        x.function(1, 2.0, 6.0, 0.0, 0.0);
        Check.same("power of nothing", errorOf(x, 1, 0.0), 2);
        Check.same("power of less than nothing", errorOf(x, 1, -3.0), 2);
        Check.same("power of -0.0", errorOf(x, 1, -0.0), 2);
        Check.same("power of something", errorOf(x, 1, 0.5), 0);
        x.function(1, 2.0, 6.0, 1.0, 0.0);
        Check.same("power 1 of nothing", errorOf(x, 2, 0.0), 0);
        x.text(0, 1.0);
        x.text(8, 0.0);
        x.text(4, 0.0);
        x.function(3, 0.0, 0.0, 0.0, 0.0);
        Check.same("1 / 0", errorOf(x, 3, 0.0), 3);
        Check.same("1 / -0", errorOf(x, 3, -0.0), 3);
        Check.same("1 / small", errorOf(x, 3, 1.0e-13), 5);
        Check.same("1 / smallest", errorOf(x, 3, Double.MIN_VALUE), 5);
        Check.same("1 / -smallest", errorOf(x, 3, -Double.MIN_VALUE), 5);
        Check.same("1 / 2", errorOf(x, 3, 2.0), 0);
        x.text(13, 0.0);
        x.function(3, 0.0, 0.0, 0.0, 0.0);
        Check.same("root below", errorOf(x, 4, -1.0e-300), 4);
        Check.same("root of -0.0", errorOf(x, 4, -0.0), 0);
        Check.same("root", errorOf(x, 4, 3.0), 0);
    }

    private static void theFirstOne() {
        ShadeRows x = new ShadeRows();
        // sqrt(t) and then 1 / that, then the square of a million squared
        int[] ops = {13, 0, 8, 4, 0, 3, 7, 3};
        double[] numbers = {0, 1.0, 0, 0, 1000000.0, 0, 0, 0};
        for (int i = 0; i < ops.length; i++) {
            x.text(ops[i], numbers[i]);
        }
        x.function(3, 0.0, 0.0, 0.0, 0.0);
        Check.same("4, 3 and no more", errorOf(x, 1, -1.0), 4);
        // 1 / t, then the root of minus one
        int[] more = {0, 8, 4, 0, 1, 13};
        double[] moreNumbers = {1.0, 0, 0, -1.0, 0, 0};
        for (int i = 0; i < more.length; i++) {
            x.text(more[i], moreNumbers[i]);
        }
        x.function(3, 0.0, 0.0, 0.0, 0.0);
        Check.same("3 before 4", errorOf(x, 2, 0.0), 3);
        Check.same("4 alone", errorOf(x, 2, 2.0), 4);
        Check.same("none", errorOf(x, 2, 1.0), 0);
        x.function(2, 2.0, 1.0, 0.5, 0.0);
        Check.same("of a part", errorOf(x, 3, 0.0), 3);
        Check.same("of the part alone", errorOf(x, 3, 1.0), 0);
    }

    private static void theLatestValue() {
        ShadeRows x = new ShadeRows();
        x.function(1, 0.0, 1.0, 0.0, 0.0);
        x.function(1, 0.0, 1.0, 1.0, 0.0);
        x.function(1, 0.0, 1.0, 1.0, 0.0);
        x.shading(1, 1.0, 0.0, -0.5, 0.0, 0.0, 0.0);
        Check.same("point has no say", x.point(1, 0, 0, 0), 255);
        Check.same("none yet", x.error(), 0);
        x.value(1, 0.0);
        Check.same("error 2", x.error(), 2);
        Check.same("asked again", x.error(), 2);
        Check.same("a point without error", x.point(1, 0, 0, 1), 0);
        Check.same("still 2", x.error(), 2);
        Check.badArgument("no value", () -> x.value(2, Double.NaN));
        Check.noSuch("no function", () -> x.value(9, 0.0));
        Check.same("a call that throws changes nothing", x.error(), 2);
        x.function(1, 0.0, 1.0, 0.0, 0.0);
        x.text(0, 0.0);
        x.shading(4, 0.0, 0.0, 0.0, 0.0, 0.0, 0.0);
        Check.same("nor do others", x.error(), 2);
        x.value(2, 0.0);
        Check.same("gone", x.error(), 0);
    }
}
