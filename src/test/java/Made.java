/** Functions, shadings and odd numbers that many tests need, so that each tells its edge alone. */
final class Made {
    static final double NONE = Double.NaN;
    static final double MOST = 1000000.0;
    static final double OVER = Math.nextUp(MOST);

    /** Numbers that are not good: a hair too far, far too far, or none at all. */
    static final double[] BAD = {
        OVER, -OVER, 1.0e300, -1.0e300, Double.POSITIVE_INFINITY, Double.NEGATIVE_INFINITY, NONE,
    };

    /** Numbers of functions or shadings of which no object has one. */
    static final int[] NOWHERE = {0, -1, 25, 26, Integer.MIN_VALUE, Integer.MAX_VALUE};

    private Made() {
    }

    /** Collects the steps, each told by its op, and 0 by its number behind it. */
    static void steps(ShadeRows x, double... words) {
        for (int i = 0; i < words.length; i++) {
            if (words[i] == 0.0) {
                x.text(0, words[i + 1]);
                i++;
            } else {
                x.text((int) words[i], 0.0);
            }
        }
    }

    static int text(ShadeRows x, double... words) {
        steps(x, words);
        return x.function(3, NONE, NONE, NONE, NONE);
    }

    /** A function whose value is t. */
    static int itself(ShadeRows x) {
        return text(x);
    }

    /** A function whose value is 1.0 where t is just this number, else 0.0. */
    static int only(ShadeRows x, double number) {
        return text(x, 0, number, 2, 0, 0.0, 0, 1.0, 11);
    }

    static int constant(ShadeRows x, double value) {
        return x.function(1, value, value, 1.0, NONE);
    }

    /** Three functions that are 1.0 (255 as a colour) just where t is the band's number. */
    static ShadeRows lookingFor(double first, double second, double third) {
        ShadeRows x = new ShadeRows();
        only(x, first);
        only(x, second);
        only(x, third);
        return x;
    }

    /** Functions that rise from 0.0 to 1.0, one for each band. */
    static ShadeRows rising() {
        ShadeRows x = new ShadeRows();
        for (int i = 0; i < 3; i++) {
            x.function(1, 0.0, 1.0, 1.0, 0.0);
        }
        return x;
    }

    static int plane(ShadeRows x, double a, double b, double c) {
        return x.shading(1, a, b, c, NONE, NONE, NONE);
    }

    static int line(ShadeRows x, double a, double b, double c, double d) {
        return x.shading(2, a, b, c, d, NONE, NONE);
    }

    static int free(ShadeRows x) {
        return x.shading(4, NONE, NONE, NONE, NONE, NONE, NONE);
    }

    static int lattice(ShadeRows x, double columns) {
        return x.shading(5, columns, NONE, NONE, NONE, NONE, NONE);
    }

    static int patch(ShadeRows x, double parts) {
        return x.shading(6, parts, NONE, NONE, NONE, NONE, NONE);
    }

    /** Shadings 1 to 6, each of the kind of its number; the functions before them rise. */
    static ShadeRows oneOfEachKind() {
        ShadeRows x = rising();
        plane(x, 0.125, 0.0, 0.0);
        line(x, 0.0, 0.0, 8.0, 0.0);
        x.shading(3, 0.0, 0.0, 2.0, 8.0, 0.0, 2.0);
        free(x);
        lattice(x, 2.0);
        patch(x, 2.0);
        return x;
    }

    static void triangle(ShadeRows x, int shading, int colour, double... places) {
        for (int i = 0; i + 1 < places.length; i += 2) {
            x.vertex(shading, places[i], places[i + 1], colour);
        }
    }

    /** The points of a patch lie around a square. */
    static void square(ShadeRows x, int shading, double left, double top, double side) {
        double[] across = {0, 1, 2, 3, 3, 3, 3, 2, 1, 0, 0, 0};
        double[] down = {0, 0, 0, 0, 1, 2, 3, 3, 3, 3, 2, 1};
        for (int i = 0; i < 12; i++) {
            x.patch(shading, i, left + across[i] * side / 3.0, top + down[i] * side / 3.0);
        }
    }
}
