/** The edges in what the document says of functions: sampled, of a power, stitched; and errors. */
public final class EdgesOfFunctionsTest {
    public static void main(String[] args) {
        Sentence.holds("FUNCTIONS 1, 2, .. (24 at most) are made by a KIND and numbers a, b, c, d.",
                EdgesOfFunctionsTest::twentyFour);
        Sentence.holds("a samples (2 .. 16, whole)", EdgesOfFunctionsTest::howManySamples);
        Sentence.holds("from b to c (b < c)", EdgesOfFunctionsTest::fromAndTo);
        Sentence.holds("bytes, at first 0", EdgesOfFunctionsTest::bytes);
        Sentence.holds("if i is the last sample, that / 255.0; else, with s and s2 samples i and"
                + " i + 1, s / 255.0 + (u - i) * (s2 - s) / 255.0.",
                EdgesOfFunctionsTest::lastSample);
        Sentence.holds("p being 1.0, c times (0 .. 12, whole) multiplied by CUT(t, 0.0, 1.0)",
                EdgesOfFunctionsTest::times);
        Sentence.holds("ERROR 2, when c is 0 and that is 0.0.", EdgesOfFunctionsTest::errorTwo);
        Sentence.holds("of functions a and b (numbers of such as there are)",
                EdgesOfFunctionsTest::parts);
        Sentence.holds("with a bound c, 0.0 .. 1.0", EdgesOfFunctionsTest::bounds);
        Sentence.holds("if w < c, the value of a at w / c; else of b, at (w - c) / (1.0 - c),"
                + " or 0.0 when c is 1.0.", EdgesOfFunctionsTest::atTheBound);
        Sentence.holds("The ERROR of a value is the first one that comes in it; 0 without one.",
                EdgesOfFunctionsTest::firstError);
        Check.end("EdgesOfFunctionsTest");
    }

    private static int anyOf(ShadeRows x, int kind) {
        switch (kind) {
            case 0:
                return x.function(0, 2.0, 0.0, 1.0, 0.0);
            case 1:
                return Made.constant(x, 8.0);
            case 2:
                return x.function(2, 1.0, 1.0, 0.5, 0.0);
            default:
                return Made.text(x, 5);
        }
    }

    private static void twentyFour() {
        for (int kind = 0; kind <= 3; kind++) {
            ShadeRows x = new ShadeRows();
            Made.constant(x, 9.0);
            for (int i = 2; i <= 24; i++) {
                int n = i;
                Check.noSuch("not yet " + n, () -> x.value(n, 0.0));
                Check.same("function " + n + " of kind " + kind, anyOf(x, kind), n);
                x.value(n, 0.0);
            }
            for (int more = 0; more <= 3; more++) {
                Check.same("no room for kind " + more, anyOf(x, more), 0);
            }
            Check.noSuch("none came", () -> x.value(25, 0.0));
            Check.same("the first one stays", x.value(1, 0.0), 9.0);
            x.value(24, 0.0);
        }
    }

    private static void howManySamples() {
        for (int a = 2; a <= 16; a++) {
            ShadeRows x = new ShadeRows();
            Check.same("samples " + a, x.function(0, a, 0.0, 1.0, 0.0), 1);
            int last = a - 1;
            Check.same("the last one is there", x.sample(1, last, 7), 0);
            Check.same("the last one stays", x.sample(1, last, 7), 7);
            Check.badIndex("one more is not", () -> x.sample(1, last + 1, 7));
        }
        double[] wrong = {1.0, 0.0, -2.0, 17.0, 1.9999999999999998, 2.5, 15.5,
            Math.nextUp(2.0), Math.nextDown(16.0), Math.nextUp(16.0), 4294967298.0, -4294967294.0};
        for (double a : wrong) {
            Check.same("samples " + a, new ShadeRows().function(0, a, 0.0, 1.0, 0.0), 0);
        }
    }

    private static void fromAndTo() {
        ShadeRows x = new ShadeRows();
        Check.same("the same", x.function(0, 2.0, 5.0, 5.0, 0.0), 0);
        Check.same("0.0 and -0.0", x.function(0, 2.0, -0.0, 0.0, 0.0), 0);
        Check.same("turned", x.function(0, 2.0, 5.0, Math.nextDown(5.0), 0.0), 0);
        Check.same("as near as may be", x.function(0, 2.0, 5.0, Math.nextUp(5.0), 0.0), 1);
        x.sample(1, 1, 255);
        Check.same("as near, at b", x.value(1, 5.0), 0.0);
        Check.same("as near, at c", x.value(1, Math.nextUp(5.0)), 1.0);
        Check.same("around 0.0", x.function(0, 3.0, -0.0, Double.MIN_VALUE, 0.0), 2);
        x.sample(2, 2, 255);
        Check.same("around 0.0, at b", x.value(2, 0.0), 0.0);
        Check.same("around 0.0, at c", x.value(2, Double.MIN_VALUE), 1.0);
        Check.same("as far as may be", x.function(0, 3.0, -Made.MOST, Made.MOST, 0.0), 3);
        x.sample(3, 1, 255);
        Check.same("as far, at b", x.value(3, -Made.MOST), 0.0);
        Check.same("as far, half way", x.value(3, 0.0), 1.0);
        Check.same("as far, at c", x.value(3, Made.MOST), 0.0);
    }

    private static void bytes() {
        ShadeRows x = new ShadeRows();
        x.function(0, 16.0, 0.0, 15.0, 0.0);
        for (int i = 0; i < 16; i++) {
            Check.same("value at first " + i, x.value(1, i), 0.0);
        }
        int[] given = {0, 1, 127, 128, 254, 255, 256, 257, 511, 512, -1, -128, -255, -256,
            Integer.MAX_VALUE, Integer.MIN_VALUE};
        int[] due = {0, 1, 127, 128, 254, 255, 0, 1, 255, 0, 255, 128, 1, 0, 255, 0};
        for (int i = 0; i < 16; i++) {
            Check.same("at first " + i, x.sample(1, i, given[i]), 0);
        }
        for (int i = 0; i < 16; i++) {
            Check.same("value of " + given[i], x.value(1, i), due[i] / 255.0);
            Check.same("byte of " + given[i], x.sample(1, i, 0), due[i]);
        }
    }

    private static void lastSample() {
        ShadeRows x = new ShadeRows();
        // At c, u is 15.000000000000002: the last sample, and nothing behind it.
        x.function(0, 16.0, 0.0, 0.7, 0.0);
        x.sample(1, 14, 51);
        x.sample(1, 15, 255);
        Check.same("u is beyond the last", x.value(1, 0.7), 1.0);
        Check.same("farther away", x.value(1, 99.0), 1.0);
        // At c, u is 2.9999999999999996: the last but one, with nearly all of the last.
        x.function(0, 4.0, 0.0, 0.7, 0.0);
        x.sample(2, 3, 255);
        Check.same("u is before the last", x.value(2, 0.7), 0.9999999999999996);
        Check.same("farther away, too", x.value(2, 99.0), 0.9999999999999996);
        x.function(0, 2.0, 0.0, 1.0, 0.0);
        x.sample(3, 0, 200);
        Check.same("of two, the first", x.value(3, 0.0), 200 / 255.0);
        Check.same("of two, the last", x.value(3, 1.0), 0.0);
        Check.same("of two, falling", x.value(3, 0.5), 200 / 255.0 + 0.5 * -200 / 255.0);
        Check.same("just before the last", x.value(3, Math.nextDown(1.0)),
                200 / 255.0 + 0.9999999999999999 * -200 / 255.0);
    }

    private static void times() {
        double half = 1.0;
        for (int c = 0; c <= 12; c++) {
            ShadeRows x = new ShadeRows();
            Check.same("power " + c, x.function(1, 0.0, 1.0, c, 0.0), 1);
            Check.same("half, " + c + " times", x.value(1, 0.5), half);
            Check.same("of 1.0", x.value(1, 1.0), 1.0);
            Check.same("of more", x.value(1, 3.0), 1.0);
            Check.same("of nothing", x.value(1, 0.0), c == 0 ? 1.0 : 0.0);
            half = half / 2.0;
        }
        double[] wrong = {-1.0, -Double.MIN_VALUE, Double.MIN_VALUE, 0.5, Math.nextDown(12.0),
            Math.nextUp(12.0), 13.0, 4294967296.0, -4294967296.0};
        for (double c : wrong) {
            Check.same("power " + c, new ShadeRows().function(1, 0.0, 1.0, c, 0.0), 0);
        }
        ShadeRows x = new ShadeRows();
        Check.same("power -0.0 is 0", x.function(1, 0.0, 1.0, -0.0, 0.0), 1);
        Check.same("its value", x.value(1, 0.5), 1.0);
        Check.same("from the most to the least", x.function(1, Made.MOST, -Made.MOST, 1.0, 0.0), 2);
        Check.same("at 0.0", x.value(2, 0.0), Made.MOST);
        Check.same("at 1.0", x.value(2, 1.0), -Made.MOST);
    }

    private static int errorAt(ShadeRows x, int function, double t) {
        x.value(function, t);
        return x.error();
    }

    private static void errorTwo() {
        ShadeRows x = new ShadeRows();
        x.function(1, 3.0, 8.0, 0.0, 0.0);
        x.function(1, 3.0, 8.0, 1.0, 0.0);
        x.function(1, 3.0, 8.0, 12.0, 0.0);
        for (double t : new double[] {0.0, -0.0, -Double.MIN_VALUE, -1.0, -Made.MOST}) {
            Check.same("c 0 at " + t, errorAt(x, 1, t), 2);
            Check.same("p stays 1.0 at " + t, x.value(1, t), 8.0);
            Check.same("c 1 at " + t, errorAt(x, 2, t), 0);
            Check.same("c 12 at " + t, errorAt(x, 3, t), 0);
        }
        for (double t : new double[] {Double.MIN_VALUE, 0.5, 1.0, Made.MOST}) {
            Check.same("c 0 at " + t, errorAt(x, 1, t), 0);
            Check.same("its value", x.value(1, t), 8.0);
        }
    }

    private static void parts() {
        for (int there = 0; there <= 22; there++) {
            ShadeRows x = new ShadeRows();
            for (int i = 0; i < there; i++) {
                Made.constant(x, i);
            }
            Check.same("the next as a", x.function(2, there + 1, 1.0, 0.5, 0.0), 0);
            Check.same("the next as b", x.function(2, 1.0, there + 1, 0.5, 0.0), 0);
            Check.same("none as a", x.function(2, 0.0, there, 0.5, 0.0), 0);
            Check.same("none as b", x.function(2, there, 0.0, 0.5, 0.0), 0);
            Check.same("first and last", x.function(2, 1.0, there, 0.5, 0.0),
                    there == 0 ? 0 : there + 1);
            Check.same("last and first", x.function(2, there, 1.0, 0.5, 0.0),
                    there == 0 ? 0 : there + 2);
        }
        ShadeRows x = Made.rising();
        double[] wrong = {-1.0, -0.0, 0.5, Math.nextDown(1.0), Math.nextUp(1.0), 1.5,
            Math.nextUp(3.0), 4.0, 25.0, 4294967297.0, -4294967295.0, Double.NaN};
        for (double number : wrong) {
            Check.same("as a " + number, x.function(2, number, 1.0, 0.5, 0.0), 0);
            Check.same("as b " + number, x.function(2, 1.0, number, 0.5, 0.0), 0);
        }
        Check.same("the last is the last", x.function(2, 3.0, 3.0, 0.5, 0.0), 4);
    }

    private static void bounds() {
        ShadeRows x = Made.rising();
        double[] wrong = {-Double.MIN_VALUE, -0.5, -1.0, Math.nextUp(1.0), 1.5, 2.0, Double.NaN};
        for (double c : wrong) {
            Check.same("bound " + c, x.function(2, 1.0, 2.0, c, 0.0), 0);
        }
        double[] right = {0.0, -0.0, Double.MIN_VALUE, 0.5, Math.nextDown(1.0), 1.0};
        for (int i = 0; i < right.length; i++) {
            Check.same("bound " + right[i], x.function(2, 1.0, 2.0, right[i], 0.0), 4 + i);
        }
    }

    private static void atTheBound() {
        ShadeRows x = new ShadeRows();
        int t = Made.itself(x);
        int more = Made.text(x, 0, 100.0, 1);
        int half = x.function(2, t, more, 0.5, 0.0);
        Check.same("below 0.0", x.value(half, -1.0), 0.0);
        Check.same("at 0.0", x.value(half, 0.0), 0.0);
        Check.same("just before the bound", x.value(half, Math.nextDown(0.5)), Math.nextDown(1.0));
        Check.same("at the bound", x.value(half, 0.5), 100.0);
        Check.same("at 1.0", x.value(half, 1.0), 101.0);
        Check.same("above 1.0", x.value(half, 7.0), 101.0);
        int none = x.function(2, t, more, 0.0, 0.0);
        Check.same("bound 0.0, below", x.value(none, -1.0), 100.0);
        Check.same("bound 0.0, at 0.0", x.value(none, 0.0), 100.0);
        Check.same("bound 0.0, at 1.0", x.value(none, 1.0), 101.0);
        int all = x.function(2, more, t, 1.0, 0.0);
        Check.same("bound 1.0, at 0.0", x.value(all, 0.0), 100.0);
        Check.same("bound 1.0, half way", x.value(all, 0.5), 100.5);
        Check.same("bound 1.0, at 1.0", x.value(all, 1.0), 0.0);
        Check.same("bound 1.0, above", x.value(all, 5.0), 0.0);
        int least = x.function(2, more, t, Double.MIN_VALUE, 0.0);
        Check.same("least bound, at 0.0", x.value(least, 0.0), 100.0);
        Check.same("least bound, at it", x.value(least, Double.MIN_VALUE), 0.0);
        int most = x.function(2, t, more, Math.nextDown(1.0), 0.0);
        Check.same("most bound, at it", x.value(most, Math.nextDown(1.0)), 100.0);
        Check.same("most bound, at 1.0", x.value(most, 1.0), 101.0);
    }

    private static void firstError() {
        ShadeRows x = new ShadeRows();
        int none = Made.itself(x);
        int two = x.function(1, 0.0, 1.0, 0.0, 0.0);
        int three = Made.text(x, 0, 0.0, 4);
        int four = Made.text(x, 9, 0, -1.0, 13);
        int five = Made.text(x, 9, 0, Made.MOST, 7, 7, 3, 3);
        int threeFour = Made.text(x, 0, 0.0, 4, 9, 0, -1.0, 13);
        int fourThree = Made.text(x, 9, 0, -1.0, 13, 0, 0.0, 4);
        int fiveThree = Made.text(x, 9, 0, Made.MOST, 7, 7, 3, 3, 0, 0.0, 4);
        int threeFive = Made.text(x, 0, 0.0, 4, 9, 0, Made.MOST, 7, 7, 3, 3);
        Check.same("none", errorAt(x, none, 0.0), 0);
        Check.same("2", errorAt(x, two, 0.0), 2);
        Check.same("3", errorAt(x, three, 0.0), 3);
        Check.same("4", errorAt(x, four, 0.0), 4);
        Check.same("5", errorAt(x, five, 0.0), 5);
        Check.same("3 before 4", errorAt(x, threeFour, 0.0), 3);
        Check.same("4 before 3", errorAt(x, fourThree, 0.0), 4);
        Check.same("5 before 3", errorAt(x, fiveThree, 0.0), 5);
        Check.same("3 before 5", errorAt(x, threeFive, 0.0), 3);
        int stitched = x.function(2, two, fourThree, 0.5, 0.0);
        int deep = x.function(2, stitched, none, 1.0, 0.0);
        Check.same("of the first part", errorAt(x, stitched, 0.0), 2);
        Check.same("of the first part, without", errorAt(x, stitched, 0.25), 0);
        Check.same("of the second part", errorAt(x, stitched, 0.5), 4);
        Check.same("of a part's part", errorAt(x, deep, 0.75), 4);
        Check.same("of the other part", errorAt(x, deep, 1.0), 0);
        x.function(0, 2.0, 0.0, 1.0, 0.0);
        Check.same("samples have none", errorAt(x, 12, 0.0), 0);
    }
}
