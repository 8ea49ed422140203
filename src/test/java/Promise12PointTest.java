/** Promise 12: a band of the colour at a point. */
public final class Promise12PointTest {
    public static void main(String[] args) {
        wrong();
        plane();
        functionsOfTheBands();
        line();
        shortestLines();
        circlesWithin();
        circlesWithoutA();
        circlesThatShrink();
        circlesAslant();
        free();
        skewTriangle();
        thinTriangles();
        lattice();
        patchColours();
        Check.end("Promise12PointTest");
    }

    private static ShadeRows withRamps() {
        ShadeRows x = new ShadeRows();
        x.function(1, 0.0, 1.0, 1.0, 0.0);
        x.function(1, 1.0, 0.0, 1.0, 0.0);
        x.function(1, 0.0, 1.0, 2.0, 0.0);
        return x;
    }

    private static void bands(String what, ShadeRows x, int shading, int[] at, int... due) {
        for (int band = 0; band < 3; band++) {
            Check.same(what + ", band " + band, x.point(shading, at[0], at[1], band), due[band]);
        }
    }

    private static int[] at(int x, int y) {
        return new int[] {x, y};
    }

    private static void wrong() {
        ShadeRows x = withRamps();
        for (int kind = 1; kind <= 6; kind++) {
            x.shading(kind, 2.0, 0.0, 6.0, 0.0, 0.0, 0.0);
            int n = kind;
            for (int band : new int[] {-1, 3, Integer.MIN_VALUE, Integer.MAX_VALUE}) {
                Check.badIndex("band " + band, () -> x.point(n, 0, 0, band));
                Check.badIndex("band, and x, " + band, () -> x.point(n, 10001, 0, band));
            }
            for (int far : new int[] {-10001, 10001, Integer.MIN_VALUE, Integer.MAX_VALUE}) {
                Check.badArgument("x " + far, () -> x.point(n, far, 0, 0));
                Check.badArgument("y " + far, () -> x.point(n, 0, far, 2));
            }
        }
        for (int n : new int[] {-1, 0, 7, 25}) {
            Check.noSuch("shading " + n, () -> x.point(n, 0, 0, 0));
            Check.noSuch("shading and all", () -> x.point(n, 10001, -10001, 3));
        }
        Check.same("as far as may be", x.point(1, 10000, 10000, 0), 255);
        Check.same("as far below", x.point(1, -10000, -10000, 0), 0);
    }

    private static void plane() {
        ShadeRows x = withRamps();
        x.shading(1, 0.125, 0.25, -0.5, 0.0, 0.0, 0.0);
        // x 2.5, y 1.5: t is 0.3125 + 0.375 - 0.5
        bands("plane", x, 1, at(2, 1), 48, 207, 9);
        bands("plane, below", x, 1, at(-2, -1), 0, 255, 0);
        bands("plane, above", x, 1, at(20, 0), 255, 0, 255);
    }

    private static void functionsOfTheBands() {
        ShadeRows x = new ShadeRows();
        for (int i = 1; i <= 4; i++) {
            x.function(1, i / 10.0, i / 10.0, 1.0, 0.0);
        }
        x.shading(1, 0.0, 0.0, 0.0, 0.0, 0.0, 0.0);
        x.function(1, 5.0, 5.0, 1.0, 0.0);
        x.shading(1, 0.0, 0.0, 0.0, 0.0, 0.0, 0.0);
        bands("the last three then", x, 1, at(0, 0), 51, 77, 102);
        bands("the last three now", x, 2, at(0, 0), 77, 102, 255);
        x.function(0, 2.0, 0.0, 1.0, 0.0);
        x.shading(1, 0.0, 0.0, 0.0, 0.0, 0.0, 0.0);
        Check.same("samples", x.point(3, 0, 0, 2), 0);
        x.sample(6, 0, 99);
        Check.same("samples that change", x.point(3, 0, 0, 2), 99);
    }

    private static void line() {
        ShadeRows x = withRamps();
        x.shading(2, 1.0, 1.0, 5.0, 1.0, 0.0, 0.0);
        bands("line", x, 1, at(2, 77), 96, 159, 36);
        bands("before", x, 1, at(0, 0), -1, -1, -1);
        bands("behind", x, 1, at(5, 0), -1, -1, -1);
        x.shading(2, 0.5, 0.5, 4.5, 4.5, 0.0, 0.0);
        bands("at the begin", x, 2, at(0, 0), 0, 255, 0);
        bands("at the end", x, 2, at(4, 4), 255, 0, 255);
        bands("aside", x, 2, at(0, 4), 128, 128, 64);
        bands("just before", x, 2, at(-1, 0), -1, -1, -1);
    }

    /** Their squares are 0.0: t has no end, or is no number at a place across from the begin. */
    private static void shortestLines() {
        ShadeRows x = withRamps();
        x.shading(2, 0.0, 0.0, 1.0e-200, 0.0, 0.0, 0.0);
        Check.same("behind", x.point(1, 3, 0, 0), -1);
        Check.same("before", x.point(1, -3, 0, 0), -1);
        x.extend(1, true, true);
        Check.same("behind, extended", x.point(1, 3, 0, 0), 255);
        Check.same("before, extended", x.point(1, -3, 0, 0), 0);
        x.shading(2, 0.0, 0.0, Double.MIN_VALUE, -Double.MIN_VALUE, 0.0, 0.0);
        x.extend(2, true, true);
        Check.same("no number", x.point(2, 3, 3, 0), -1);
    }

    private static void circlesWithin() {
        ShadeRows x = withRamps();
        x.shading(3, 0.5, 0.5, 1.0, 0.5, 0.5, 5.0);
        // At distance d from the middle, t is (d - 1) / 4.
        bands("ring", x, 1, at(2, 0), 64, 191, 16);
        bands("outer ring", x, 1, at(0, 5), 255, 0, 255);
        bands("in the middle", x, 1, at(0, 0), -1, -1, -1);
        bands("outside", x, 1, at(0, 6), -1, -1, -1);
        x.extend(1, true, true);
        bands("in the middle, extended", x, 1, at(0, 0), 0, 255, 0);
        bands("outside, extended", x, 1, at(0, 6), 255, 0, 255);
    }

    /** All circles touch (0, 0) from the right: A is 0.0, and t is C / (2.0 * B). */
    private static void circlesWithoutA() {
        ShadeRows x = withRamps();
        x.shading(3, 0.0, 0.0, 0.0, 4.0, 0.0, 4.0);
        // x 2.5, y 0.5: C is 6.5, B is 10.0, t is 0.325
        bands("touching", x, 1, at(2, 0), 83, 172, 27);
        bands("too far", x, 1, at(9, 0), -1, -1, -1);
        bands("left of it", x, 1, at(-3, 0), -1, -1, -1);
        x.extend(1, true, true);
        bands("far, extended", x, 1, at(9, 0), 255, 0, 255);
        bands("left of it there is no circle", x, 1, at(-3, 0), -1, -1, -1);
        x.shading(3, 0.5, 0.0, 0.0, 4.5, 0.0, 4.0);
        x.extend(2, true, true);
        bands("B is 0.0", x, 2, at(0, 3), -1, -1, -1);
        // Circles that lie so near that t has no end, and no number is the circle's radius.
        x.shading(3, 0.0, 0.0, 1.0, Double.MIN_VALUE, 0.0, 1.0);
        x.extend(3, true, true);
        bands("no radius", x, 3, at(9, 0), -1, -1, -1);
    }

    /** From radius 3 at (0, 0) to a point at (8, 0): a cone that ends there. */
    private static void circlesThatShrink() {
        ShadeRows x = withRamps();
        x.shading(3, 0.0, 0.0, 3.0, 8.0, 0.0, 0.0);
        Check.same("behind the tip", x.point(1, 9, 0, 0), -1);
        Check.same("before the begin", x.point(1, -20, 0, 0), -1);
        x.extend(1, true, true);
        Check.same("behind the tip, extended", x.point(1, 9, 0, 0), -1);
        Check.same("before the begin, extended", x.point(1, -20, 0, 0), 0);
        Check.same("aside of the cone", x.point(1, 7, 5, 0), -1);
        x.extend(1, false, true);
        // x 0.5, y 0.5: A is 55, B -5, C -8.5, and the greater t of both 0.31259
        bands("on the greater", x, 1, at(0, 0), 80, 175, 25);
    }

    private static void circlesAslant() {
        ShadeRows x = withRamps();
        x.shading(3, 1.0, 2.0, 1.0, 4.0, 6.0, 3.0);
        // x 3.5, y 3.5: A is 21, B 15.5, C 7.5; t 1.17127, that is not painted, and 0.30492
        bands("the lesser", x, 1, at(3, 3), 78, 177, 24);
        x.extend(1, false, true);
        bands("the greater", x, 1, at(3, 3), 255, 0, 255);
        x.shading(3, 0.5, 0.5, 3.0, 1000.5, 0.5, 0.0);
        bands("the tip itself, of radius 0.0", x, 2, at(1000, 0), 255, 0, 255);
    }

    private static void free() {
        ShadeRows x = new ShadeRows();
        x.shading(4, 0.0, 0.0, 0.0, 0.0, 0.0, 0.0);
        x.vertex(1, 0.0, 0.0, 0x0000ff);
        x.vertex(1, 8.0, 0.0, 0x00ff00);
        bands("two vertices", x, 1, at(1, 1), -1, -1, -1);
        x.vertex(1, 0.0, 8.0, 0xff0000);
        // x 1.5, y 2.5: q is 1.5 / 8, r is 2.5 / 8, p the rest
        bands("triangle", x, 1, at(1, 2), 128, 48, 80);
        bands("on its side", x, 1, at(3, 4), 0, 112, 143);
        bands("outside", x, 1, at(4, 4), -1, -1, -1);
        bands("outside left", x, 1, at(-1, 4), -1, -1, -1);
        x.vertex(1, 0.0, 0.0, 10);
        x.vertex(1, 4.0, 0.0, 10);
        bands("not yet", x, 1, at(1, 1), 159, 48, 48);
        x.vertex(1, 0.0, 4.0, 10);
        bands("the last one counts", x, 1, at(1, 1), 10, 0, 0);
        bands("its side too", x, 1, at(1, 2), 10, 0, 0);
        bands("the first one elsewhere", x, 1, at(3, 3), 32, 112, 112);
        for (int i = 0; i < 3; i++) {
            x.vertex(1, i, i, 99);
        }
        bands("a line paints nothing", x, 1, at(1, 1), 10, 0, 0);
    }

    private static void skewTriangle() {
        ShadeRows x = new ShadeRows();
        x.shading(4, 0.0, 0.0, 0.0, 0.0, 0.0, 0.0);
        x.vertex(1, 1.0, 2.0, 0x0000ff);
        x.vertex(1, 7.0, 3.0, 0x00ff00);
        x.vertex(1, 2.0, 8.0, 0xff0000);
        // x 3.5, y 4.5: den is 35, p 10 / 35, q 12.5 / 35
        bands("skew", x, 1, at(3, 4), 73, 91, 91);
    }

    /** den is so small that p, q and r may have no end. */
    private static void thinTriangles() {
        ShadeRows x = new ShadeRows();
        x.shading(4, 0.0, 0.0, 0.0, 0.0, 0.0, 0.0);
        double small = 1.0e-160;
        x.vertex(1, 0.0, 0.0, 1);
        x.vertex(1, small, 0.0, 2);
        x.vertex(1, 0.0, small, 3);
        for (int i = -4; i <= 4; i++) {
            for (int j = -4; j <= 4; j++) {
                Check.same("small", x.point(1, i, j, 0), -1);
            }
        }
        x.vertex(1, 0.5, 0.5, 1);
        x.vertex(1, 0.5 + 1.0e-17, 0.5, 2);
        x.vertex(1, 0.5, 0.75, 3);
        Check.same("of no width", x.point(1, 0, 0, 0), -1);
        x.vertex(1, 0.5, 0.5, 4);
        x.vertex(1, 0.5 + 1.0e-15, 0.5, 5);
        x.vertex(1, 0.5, 0.75, 6);
        Check.same("of some width", x.point(1, 0, 0, 0), 4);
    }

    private static void lattice() {
        ShadeRows x = new ShadeRows();
        x.shading(5, 3.0, 0.0, 0.0, 0.0, 0.0, 0.0);
        for (int i = 0; i < 8; i++) {
            x.vertex(1, i % 3 * 4.0, i / 3 * 4.0, 30 * i);
        }
        // upper left 0, upper right 30, lower left 90: x 0.5, y 1.5
        Check.same("first triangle", x.point(1, 0, 1, 0), 38);
        // upper right 30, lower left 90, lower right 120: linear all over
        Check.same("second triangle", x.point(1, 3, 2, 0), 83);
        Check.same("second column", x.point(1, 5, 1, 0), 75);
        Check.same("a row that is not full", x.point(1, 1, 5, 0), -1);
        x.vertex(1, 8.0, 8.0, 30 * 8);
        Check.same("a row that is full", x.point(1, 1, 5, 0), 135);
        Check.same("its end", x.point(1, 7, 7, 0), 225);
        Check.same("outside", x.point(1, 8, 7, 0), -1);
        ShadeRows y = new ShadeRows();
        y.shading(5, 2.0, 0.0, 0.0, 0.0, 0.0, 0.0);
        y.vertex(1, 0.0, 0.0, 0);
        y.vertex(1, 9.0, 0.0, 0);
        y.vertex(1, 0.0, 9.0, 0);
        y.vertex(1, 9.0, 9.0, 240);
        Check.same("upper left, without the fourth", y.point(1, 3, 4, 0), 0);
        Check.same("lower right, with it", y.point(1, 7, 7, 0), 160);
        Check.same("on both", y.point(1, 4, 4, 0), 0);
        ShadeRows z = new ShadeRows();
        z.shading(5, 2.0, 0.0, 0.0, 0.0, 0.0, 0.0);
        z.vertex(1, 0.0, 0.0, 16);
        z.vertex(1, 9.0, 0.0, 16);
        z.vertex(1, 0.0, 9.0, 16);
        z.vertex(1, 1.0, 1.0, 200);
        Check.same("folded, the second one counts", z.point(1, 2, 2, 0), 121);
        Check.same("folded, the first one alone", z.point(1, 0, 0, 0), 16);
    }

    private static void patchColours() {
        ShadeRows x = new ShadeRows();
        x.shading(6, 2.0, 0.0, 0.0, 0.0, 0.0, 0.0);
        double[] xs = {0, 4, 8, 12, 12, 12, 12, 8, 4, 0, 0, 0};
        double[] ys = {0, 0, 0, 0, 4, 8, 12, 12, 12, 12, 8, 4};
        for (int i = 0; i < 12; i++) {
            x.patch(1, i, xs[i], ys[i]);
        }
        x.vertex(1, 7.0, 7.0, 0x000000);
        x.vertex(1, 7.0, 7.0, 0x0000f0);
        x.vertex(1, 7.0, 7.0, 0x00f0f0);
        bands("three vertices", x, 1, at(2, 3), -1, -1, -1);
        x.vertex(1, 7.0, 7.0, 0x00f000);
        // Band 0 goes with u, band 1 with v: 20 for each 1.0 of x, or y.
        bands("first piece", x, 1, at(2, 3), 50, 70, 0);
        bands("last piece", x, 1, at(11, 10), 230, 210, 0);
        bands("other corners", x, 1, at(11, 0), 230, 10, 0);
        bands("outside", x, 1, at(12, 0), -1, -1, -1);
        bands("outside below", x, 1, at(0, 12), -1, -1, -1);
        x.vertex(1, 7.0, 7.0, 0xffffff);
        bands("a fifth vertex does not matter", x, 1, at(2, 3), 50, 70, 0);
        for (int i = 0; i < 12; i++) {
            x.patch(1, i, xs[i] + 20.0, ys[i] + 30.0);
        }
        bands("moved", x, 1, at(22, 33), 50, 70, 0);
        bands("moved, the far corner", x, 1, at(31, 41), 230, 230, 0);
        bands("moved away", x, 1, at(2, 3), -1, -1, -1);
        ShadeRows y = new ShadeRows();
        y.shading(6, 1.0, 0.0, 0.0, 0.0, 0.0, 0.0);
        for (int i = 0; i < 12; i++) {
            y.patch(1, i, xs[i], ys[i]);
        }
        int[] colours = {10, 20, 200, 90};
        for (int colour : colours) {
            y.vertex(1, 0.0, 0.0, colour);
        }
        // Corner 0 at (0, 0), 3 at (12, 0), 9 at (0, 12): 10 + 10 * 2.5 / 12 + 80 * 3.5 / 12
        Check.same("one piece, upper left", y.point(1, 2, 3, 0), 35);
        // 20 at (12, 0), 90 at (0, 12), 200 at (12, 12): 200 - 180 * 0.5 / 12 - 110 * 0.5 / 12
        Check.same("one piece, lower right", y.point(1, 11, 11, 0), 188);
    }
}
