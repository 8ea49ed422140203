/** The edges in what the document says of all numbers, of colours and of a point's middle. */
public final class EdgesOfNumbersTest {
    /** Says if a call takes a number. */
    private interface Taker {
        boolean takes(double number);
    }

    public static void main(String[] args) {
        Sentence.holds("A number is GOOD, if it is not below -1000000.0 nor above 1000000.0"
                + " (and is one at all).", EdgesOfNumbersTest::good);
        Sentence.holds("ROOT(x), for x of 0.0 or more: r is x, or 1.0 if that is greater;"
                + " forty times r becomes (r + x / r) / 2.0.", EdgesOfNumbersTest::root);
        Sentence.holds("CUT(t, p, q) is p where t is below p, q where it is above q, else t.",
                EdgesOfNumbersTest::cut);
        Sentence.holds("(int) (CUT(v, 0.0, 1.0) * 255.0 + 0.5).", EdgesOfNumbersTest::colour);
        Sentence.holds("those of kinds 1 to 3 are by the three functions that were made last before"
                + " the shading, the last one for band 2", EdgesOfNumbersTest::lastFunctions);
        Sentence.holds("x and y are those of the point's middle: 0.5 more than its own.",
                EdgesOfNumbersTest::middle);
        Check.end("EdgesOfNumbersTest");
    }

    private static void good() {
        double[] both = {Made.MOST, -Made.MOST, Math.nextDown(Made.MOST), 0.0, -0.0, -0.5};
        double[] fromZero = {Made.MOST, Math.nextDown(Made.MOST), 0.0, -0.0, Double.MIN_VALUE};
        ShadeRows x = Made.oneOfEachKind();
        for (int op = 0; op <= 13; op++) {
            int step = op;
            takes("text " + op, n -> new ShadeRows().text(step, n) == 1, both);
        }
        takes("sampled, b", n -> new ShadeRows().function(0, 2.0, n, 1.0, 0.0) == 1,
                -Made.MOST, 0.0, -0.0);
        takes("sampled, c", n -> new ShadeRows().function(0, 2.0, -1.0, n, 0.0) == 1, fromZero);
        takes("power, a", n -> new ShadeRows().function(1, n, 0.0, 1.0, 0.0) == 1, both);
        takes("power, b", n -> new ShadeRows().function(1, 0.0, n, 1.0, 0.0) == 1, both);
        takes("stitched, c", n -> Made.rising().function(2, 1.0, 1.0, n, 0.0) == 4, 0.0, 1.0);
        takes("value", n -> hasValue(x, n), both);
        int[] used = {0, 3, 4, 6};
        for (int kind = 1; kind <= 3; kind++) {
            for (int i = 0; i < used[kind]; i++) {
                int k = kind;
                int which = i;
                boolean radius = kind == 3 && (i == 2 || i == 5);
                takes("shading " + kind + ", number " + i, n -> isMade(k, which, n),
                        radius ? fromZero : both);
            }
        }
        takes("lattice", n -> Made.lattice(new ShadeRows(), n) == 1, 2.0, 8.0);
        takes("patch", n -> Made.patch(new ShadeRows(), n) == 1, 1.0, 6.0);
        for (int kind = 4; kind <= 6; kind++) {
            int s = kind;
            takes("vertex, x", n -> x.vertex(s, n, 0.0, 0) > 0, both);
            takes("vertex, y", n -> x.vertex(s, 0.0, n, 0) > 0, both);
        }
        for (int i = 0; i < 12; i++) {
            int point = i;
            takes("patch, x", n -> x.patch(6, point, n, 0.0) == 1, both);
            takes("patch, y", n -> x.patch(6, point, 0.0, n) == 1, both);
        }
    }

    private static void takes(String what, Taker taker, double... good) {
        for (double number : good) {
            Check.isTrue(what + " takes " + number, taker.takes(number));
        }
        for (double number : Made.BAD) {
            Check.isTrue(what + " refuses " + number, !taker.takes(number));
        }
    }

    private static boolean hasValue(ShadeRows x, double t) {
        try {
            x.value(1, t);
            return true;
        } catch (IllegalArgumentException e) {
            return false;
        }
    }

    private static boolean isMade(int kind, int which, double number) {
        double[] n = {3.0, 5.0, 7.0, 11.0, 13.0, 17.0};
        n[which] = number;
        return Made.rising().shading(kind, n[0], n[1], n[2], n[3], n[4], n[5]) == 1;
    }

    private static void root() {
        ShadeRows x = new ShadeRows();
        int root = Made.text(x, 13);
        Check.same("of 0.0, 1.0 is halved forty times", x.value(root, 0.0), 0x1p-40);
        Check.same("of -0.0", x.value(root, -0.0), 0x1p-40);
        Check.same("of the least", x.value(root, Double.MIN_VALUE), 0x1p-40);
        Check.same("of little, not yet at its end", x.value(root, 1.0e-24), 1.2494946899444133e-12);
        Check.same("of a quarter", x.value(root, 0.25), 0.5);
        Check.same("of a half", x.value(root, 0.5), 0.7071067811865475);
        Check.same("just below 1.0", x.value(root, Math.nextDown(1.0)), 1.0);
        Check.same("of 1.0", x.value(root, 1.0), 1.0);
        Check.same("just above 1.0", x.value(root, Math.nextUp(1.0)), 1.0);
        Check.same("of 2.0", x.value(root, 2.0), 1.414213562373095);
        Check.same("of the most that is good", x.value(root, Made.MOST), 1000.0);
        int square = Made.text(x, 7, 3, 13);
        Check.same("of the most on a stack", x.value(square, Made.MOST), Made.MOST);
        ShadeRows y = Made.lookingFor(0.7714409843612968, 0.0, 1.0);
        // D is 2.0e24: forty times do not reach its root, which would tell t 0.6767769.
        y.shading(3, -Made.MOST, -Made.MOST, 500000.0, Made.MOST, Made.MOST, 500000.0);
        Check.same("of very much, not yet at its end", y.point(1, 0, 0, 0), 255);
        // D is 8.0e24: so far from its root both t, 1.45 and -0.45, are not painted.
        y.shading(3, -Made.MOST, -Made.MOST, Made.MOST, Made.MOST, Made.MOST, Made.MOST);
        Check.same("of too much", y.point(2, 0, 0, 0), -1);
    }

    private static void cut() {
        ShadeRows x = new ShadeRows();
        int step = Made.text(x, 12);
        x.function(1, 0.0, 1.0, 1.0, 0.0);
        int itself = Made.itself(x);
        x.function(2, itself, itself, 0.0, 0.0);
        double[] at = {-Made.MOST, -1.0, -Double.MIN_VALUE, -0.0, 0.0, Double.MIN_VALUE, 0.5,
            Math.nextDown(1.0), 1.0, Math.nextUp(1.0), 2.0, Made.MOST};
        double[] due = {0.0, 0.0, 0.0, 0.0, 0.0, Double.MIN_VALUE, 0.5,
            Math.nextDown(1.0), 1.0, 1.0, 1.0, 1.0};
        for (int i = 0; i < at.length; i++) {
            Check.same("a step at " + at[i], x.value(step, at[i]), due[i]);
            Check.same("a power at " + at[i], x.value(2, at[i]), due[i]);
            Check.same("stitched at " + at[i], x.value(4, at[i]), due[i]);
        }
        x.function(0, 2.0, 4.0, 8.0, 0.0);
        x.sample(5, 0, 51);
        x.sample(5, 1, 255);
        Check.same("samples below b", x.value(5, Math.nextDown(4.0)), 0.2);
        Check.same("samples at b", x.value(5, 4.0), 0.2);
        Check.isTrue("samples above b", x.value(5, Math.nextUp(4.0)) > 0.2);
        Check.isTrue("samples below c", x.value(5, Math.nextDown(8.0)) < 1.0);
        Check.same("samples at c", x.value(5, 8.0), 1.0);
        Check.same("samples above c", x.value(5, Math.nextUp(8.0)), 1.0);
    }

    private static int colourOf(double value) {
        ShadeRows x = new ShadeRows();
        for (int i = 0; i < 3; i++) {
            Made.constant(x, value);
        }
        Made.plane(x, 0.0, 0.0, 0.0);
        Check.same("the same in band 1", x.point(1, 3, 4, 1), x.point(1, 3, 4, 0));
        Check.same("the same in band 2", x.point(1, 3, 4, 2), x.point(1, 3, 4, 0));
        return x.point(1, 3, 4, 0);
    }

    private static void colour() {
        Check.same("far below", colourOf(-Made.MOST), 0);
        Check.same("below", colourOf(-0.5), 0);
        Check.same("just below", colourOf(-Double.MIN_VALUE), 0);
        Check.same("0.0", colourOf(0.0), 0);
        Check.same("half a step", colourOf(0.5 / 255.0), 1);
        Check.same("just less than that", colourOf(Math.nextDown(0.5 / 255.0)), 0);
        Check.same("25.5", colourOf(0.1), 26);
        Check.same("just below 25.5", colourOf(Math.nextDown(0.1)), 25);
        Check.same("127.5", colourOf(0.5), 128);
        Check.same("just below 127.5", colourOf(Math.nextDown(0.5)), 127);
        Check.same("just below 254.5", colourOf(254.49 / 255.0), 254);
        Check.same("above 254.5", colourOf(254.51 / 255.0), 255);
        Check.same("1.0", colourOf(1.0), 255);
        Check.same("just above", colourOf(Math.nextUp(1.0)), 255);
        Check.same("far above", colourOf(Made.MOST), 255);
    }

    private static void lastFunctions() {
        for (int kind = 1; kind <= 3; kind++) {
            ShadeRows x = new ShadeRows();
            for (int i = 1; i <= 3; i++) {
                Made.constant(x, i / 255.0);
            }
            x.shading(kind, 0.5, 0.5, 4.5, 4.5, 0.5, 4.5);
            x.extend(1, true, true);
            for (int band = 0; band < 3; band++) {
                Check.same("just three", x.point(1, 2, 2, band), band + 1);
            }
            Made.constant(x, 4 / 255.0);
            Check.same("a refused one", Made.constant(x, Made.OVER), 0);
            x.shading(kind, 0.5, 0.5, 4.5, 4.5, 0.5, 4.5);
            x.extend(2, true, true);
            Made.constant(x, 5 / 255.0);
            for (int band = 0; band < 3; band++) {
                Check.same("still the first three", x.point(1, 2, 2, band), band + 1);
                Check.same("without the first", x.point(2, 2, 2, band), band + 2);
            }
        }
    }

    private static void middle() {
        ShadeRows x = Made.lookingFor(-0.5, 0.5, 1.5);
        Made.plane(x, 1.0, 0.0, 0.0);
        Made.plane(x, 0.0, 1.0, 0.0);
        for (int at = -2; at <= 2; at++) {
            for (int band = 0; band < 3; band++) {
                int due = at == band - 1 ? 255 : 0;
                Check.same("x " + at, x.point(1, at, 7, band), due);
                Check.same("y " + at, x.point(2, 7, at, band), due);
            }
        }
        ShadeRows y = Made.lookingFor(-9999.5, 10000.5, 0.0);
        Made.plane(y, 1.0, 0.0, 0.0);
        Made.plane(y, 0.0, 1.0, 0.0);
        Check.same("least x", y.point(1, -10000, 10000, 0), 255);
        Check.same("most x", y.point(1, 10000, -10000, 1), 255);
        Check.same("least y", y.point(2, 10000, -10000, 0), 255);
        Check.same("most y", y.point(2, -10000, 10000, 1), 255);
    }
}
