/**
 * The sentences of the document that name no edge, in its own order: what the calls answer on
 * ordinary numbers. The tables were told by a telling of the document in another language.
 */
public final class ReadThroughTest {
    private static final int O = -1;

    public static void main(String[] args) {
        Sentence.holds("All numbers are doubles;", ReadThroughTest::doubles);
        Sentence.holds("Their VALUE at t:", ReadThroughTest::oneOfEachKind);
        Sentence.holds("0 SAMPLED: a samples", ReadThroughTest::sampled);
        Sentence.holds("1 POWER: a + p * (b - a), p being 1.0", ReadThroughTest::power);
        Sentence.holds("2 STITCHED: of functions a and b", ReadThroughTest::stitchedOfStitched);
        Sentence.holds("w being CUT(t, 0.0, 1.0): if w < c", ReadThroughTest::stitched);
        Sentence.holds("3 TEXT: the steps that were collected.", ReadThroughTest::collected);
        Sentence.holds("Steps: 0 puts its number; 1 a + b, 2 a - b, 3 a * b, 4 a / b",
                ReadThroughTest::ofTwo);
        Sentence.holds("COLOURS have bands 0, 1, 2;", ReadThroughTest::bands);
        Sentence.holds("v being the value at t: (int)", ReadThroughTest::valueAtT);
        Sentence.holds("3 CIRCLES around (a, b) and (d, e) with radii c and f",
                ReadThroughTest::around);
        Sentence.holds("dx = d - a, dy = e - b, dr = f - c;", ReadThroughTest::narrowing);
        Sentence.holds("(B + ROOT(D)) / A and (B - ROOT(D)) / A:", ReadThroughTest::bothRoots);
        Sentence.holds("Of kinds 2 and 3 t below 0.0 is PAINTED", ReadThroughTest::extended);
        Sentence.holds("With w = 1.0 - u, bent(p, q, r, s, u) =", ReadThroughTest::bentOfTwo);
        Sentence.holds("- ((1.0 - u) * (1.0 - v) * 0 + u * (1.0 - v) * 3 + (1.0 - u) * v * 9"
                + " + u * v * 6), numbers being points' places.", ReadThroughTest::bentOfFour);
        Sentence.holds("Of the places at (i / a, j / a) triangles are made as of a lattice, rows by"
                + " j, columns by i, colours for each band (1.0 - u) * (1.0 - v) * c0 + u * (1.0 - v)"
                + " * c3 + (1.0 - u) * v * c9 + u * v * c6.", ReadThroughTest::rowsAndColumns);
        Sentence.holds("A TRIANGLE P Q R: den = (Q.y - R.y) * (P.x - R.x) + (R.x - Q.x)"
                + " * (P.y - R.y),", ReadThroughTest::triangle);
        Check.end("ReadThroughTest");
    }

    private static void doubles() {
        ShadeRows x = new ShadeRows();
        int itself = Made.itself(x);
        double[] fine = {0.1, 1.0 / 3.0, 123456.78901234567, -999999.9999999999, 1.0e-300, 0x1p-1074};
        for (double number : fine) {
            Check.same("t itself", x.value(itself, number), number);
        }
        Made.text(x, 9, 0, 0.1);
        Check.same("a number that was put", x.value(2, 0.0), 0.1);
        Made.text(x, 0, 0.1, 1);
        Check.same("0.2 + 0.1", x.value(3, 0.2), 0.30000000000000004);
    }

    private static void oneOfEachKind() {
        ShadeRows x = new ShadeRows();
        Check.same("sampled", x.function(0, 3.0, -2.0, 2.0, 0.0), 1);
        Check.same("power", x.function(1, 10.0, 30.0, 3.0, 0.0), 2);
        Check.same("stitched", x.function(2, 2.0, 1.0, 0.25, 0.0), 3);
        Check.same("text", Made.text(x, 0, 100.0, 1), 4);
        x.sample(1, 1, 51);
        x.sample(1, 2, 255);
        double[] at = {-3.0, -1.0, 0.0, 0.125, 0.25, 1.0, 5.0};
        double[][] due = {
            {0.0, 0.1, 0.2, 0.25, 0.2 + 0.1, 0.2 + 0.4, 1.0},
            {10.0, 10.0, 10.0, 10.0390625, 10.3125, 30.0, 30.0},
            {10.0, 10.0, 10.0, 12.5, 0.2, 0.2 + 0.4, 0.2 + 0.4},
            {97.0, 99.0, 100.0, 100.125, 100.25, 101.0, 105.0},
        };
        for (int n = 1; n <= 4; n++) {
            for (int i = 0; i < at.length; i++) {
                Check.same("function " + n + " at " + at[i], x.value(n, at[i]), due[n - 1][i]);
            }
        }
    }

    private static void sampled() {
        ShadeRows x = new ShadeRows();
        x.function(0, 5.0, 10.0, 18.0, 0.0);
        int[] bytes = {255, 0, 102, 51, 204};
        for (int i = 0; i < 5; i++) {
            Check.same("it was 0", x.sample(1, i, bytes[i]), 0);
        }
        for (int i = 0; i < 5; i++) {
            Check.same("sample " + i, x.value(1, 10.0 + 2.0 * i), bytes[i] / 255.0);
        }
        Check.same("between 0 and 1", x.value(1, 11.0), 0.5);
        Check.same("between 1 and 2", x.value(1, 13.5), 0.75 * 102 / 255.0);
        Check.same("between 2 and 3", x.value(1, 14.5), 102 / 255.0 + 0.25 * -51 / 255.0);
        Check.same("between 3 and 4", x.value(1, 17.0), 51 / 255.0 + 0.5 * 153 / 255.0);
    }

    private static void power() {
        double[][] due = {
            {-0.7, -0.7}, {-0.13999999999999996, -0.62}, {0.02800000000000001, -0.548},
            {0.07840000000000001, -0.4832000000000001}, {0.09352, -0.42488000000000004},
            {0.098056, -0.37239200000000006}, {0.0994168, -0.32515280000000013},
            {0.09982504, -0.2826375200000001}, {0.099947512, -0.24437376800000007},
            {0.0999842536, -0.2099363912000001}, {0.09999527608, -0.17894275208000007},
            {0.09999858282400001, -0.1510484768720001}, {0.09999957484720001, -0.12594362918480012},
        };
        ShadeRows x = new ShadeRows();
        for (int c = 0; c <= 12; c++) {
            int n = x.function(1, 0.1, -0.7, c, 0.0);
            Check.same("0.3, " + c + " times", x.value(n, 0.3), due[c][0]);
            Check.same("0.9, " + c + " times", x.value(n, 0.9), due[c][1]);
        }
    }

    private static void stitchedOfStitched() {
        ShadeRows x = new ShadeRows();
        x.function(1, 0.0, 1.0, 1.0, 0.0);
        x.function(1, 5.0, 9.0, 1.0, 0.0);
        x.function(2, 1.0, 2.0, 0.5, 0.0);
        x.function(2, 3.0, 1.0, 0.5, 0.0);
        x.function(2, 4.0, 4.0, 0.5, 0.0);
        Check.same("the first one of the first", x.value(4, 0.125), 0.5);
        Check.same("the second one of the first", x.value(4, 0.375), 7.0);
        Check.same("the second", x.value(4, 0.75), 0.5);
        Check.same("both the same, left", x.value(5, 0.1875), 7.0);
        Check.same("both the same, right", x.value(5, 0.6875), 7.0);
    }

    private static void stitched() {
        ShadeRows x = new ShadeRows();
        x.function(1, 0.0, 1.0, 1.0, 0.0);
        x.function(1, 5.0, 9.0, 1.0, 0.0);
        x.function(2, 1.0, 2.0, 0.25, 0.0);
        x.function(2, 2.0, 1.0, 0.25, 0.0);
        double[] at = {-9.0, 0.0, 0.125, 0.25, 0.625, 1.0, 9.0};
        double[] due = {0.0, 0.0, 0.5, 5.0, 7.0, 9.0, 9.0};
        double[] turned = {5.0, 5.0, 7.0, 0.0, 0.5, 1.0, 1.0};
        for (int i = 0; i < at.length; i++) {
            Check.same("1, then 2, at " + at[i], x.value(3, at[i]), due[i]);
            Check.same("2, then 1, at " + at[i], x.value(4, at[i]), turned[i]);
        }
    }

    private static void collected() {
        ShadeRows x = new ShadeRows();
        Made.steps(x, 7, 3);
        x.function(1, 0.0, 1.0, 1.0, 0.0);
        Made.steps(x, 0, 1.0, 2);
        Check.same("all steps since the last text", x.function(3, 0.0, 0.0, 0.0, 0.0), 2);
        Check.same("t * t - 1.0", x.value(2, 5.0), 24.0);
        Check.same("only the steps since then", Made.text(x, 0, 3.0, 3), 3);
        Check.same("t * 3.0", x.value(3, 5.0), 15.0);
        Check.same("the first text keeps its own", x.value(2, 7.0), 48.0);
    }

    private static void ofTwo() {
        ShadeRows x = new ShadeRows();
        double[] due = {0.0, 9.5, 4.5, 17.5, 2.8};
        for (int op = 1; op <= 4; op++) {
            int n = Made.text(x, 0, 2.5, op);
            Check.same("7.0 and 2.5, by " + op, x.value(n, 7.0), due[op]);
            Check.same("no error", x.error(), 0);
        }
    }

    private static void bands() {
        ShadeRows x = new ShadeRows();
        Made.constant(x, 0.2);
        Made.constant(x, 0.4);
        Made.constant(x, 0.8);
        Made.plane(x, 0.0, 0.0, 0.0);
        int n = Made.free(x);
        Made.triangle(x, n, 0x301020, 0.0, 0.0, 9.0, 0.0, 0.0, 9.0);
        int[] plane = {51, 102, 204};
        int[] free = {0x20, 0x10, 0x30};
        for (int band = 0; band < 3; band++) {
            Check.same("plane, band " + band, x.point(1, 1, 1, band), plane[band]);
            Check.same("free, band " + band, x.point(2, 1, 1, band), free[band]);
        }
        for (int band : new int[] {-1, 3}) {
            Check.badIndex("no band " + band, () -> x.point(1, 1, 1, band));
            Check.badIndex("no band " + band, () -> x.point(2, 1, 1, band));
        }
    }

    private static void valueAtT() {
        ShadeRows x = new ShadeRows();
        x.function(0, 3.0, 0.0, 2.0, 0.0);
        x.sample(1, 1, 77);
        x.sample(1, 2, 200);
        x.function(2, 1.0, 1.0, 0.5, 0.0);
        Made.text(x, 0, 0.25, 3);
        Made.plane(x, 1.0, 0.0, -0.5);
        // t is x alone. The stitched one goes to the middle of the first sample twice.
        int[][] due = {{0, 77, 200, 200}, {0, 77, 77, 77}, {0, 64, 128, 191}};
        for (int band = 0; band < 3; band++) {
            for (int i = 0; i < 4; i++) {
                Check.same("band " + band + " at t " + i, x.point(1, i, 9, band), due[band][i]);
            }
        }
    }

    /** Three functions: rising, falling, and the square. */
    private static ShadeRows ramps() {
        ShadeRows x = new ShadeRows();
        x.function(1, 0.0, 1.0, 1.0, 0.0);
        x.function(1, 1.0, 0.0, 1.0, 0.0);
        x.function(1, 0.0, 1.0, 2.0, 0.0);
        return x;
    }

    /** Row k at y0 + 3 * k, column i at x0 + 3 * i; the lowest byte is band 0. */
    private static void table(String what, ShadeRows x, int x0, int y0, int[][] due) {
        for (int k = 0; k < due.length; k++) {
            for (int i = 0; i < due[k].length; i++) {
                for (int band = 0; band < 3; band++) {
                    int tone = due[k][i] < 0 ? -1 : due[k][i] >> 8 * band & 255;
                    Check.same(what + " at " + (x0 + 3 * i) + ", " + (y0 + 3 * k) + ", band " + band,
                            x.point(1, x0 + 3 * i, y0 + 3 * k, band), tone);
                }
            }
        }
    }

    private static void around() {
        ShadeRows x = ramps();
        x.shading(3, 2.0, -1.0, 1.5, 11.0, 3.0, 4.25);
        table("growing", x, -3, -4, new int[][] {
            {O, O, O, O, O, O, O, O},
            {O, O, 0x30916e, 0x9c38c7, 0x4f718e, 0xca1ce3, O, O},
            {O, O, O, 0xea0bf4, 0x4a7689, 0x963bc4, O, O},
            {O, O, O, O, 0x903fc0, 0xc61ee1, O, O},
            {O, O, O, O, O, O, O, O},
            {O, O, O, O, O, O, O, O},
        });
        x.extend(1, true, true);
        table("growing, extended", x, -3, -4, new int[][] {
            {O, O, O, O, O, O, O, O},
            {O, 0x00ff00, 0x30916e, 0x9c38c7, 0xff00ff, 0xff00ff, 0xff00ff, O},
            {O, O, O, 0xea0bf4, 0xff00ff, 0xff00ff, 0xff00ff, 0xff00ff},
            {O, O, O, O, 0xff00ff, 0xff00ff, 0xff00ff, 0xff00ff},
            {O, O, O, O, O, 0xff00ff, 0xff00ff, 0xff00ff},
            {O, O, O, O, O, O, 0xff00ff, 0xff00ff},
        });
    }

    private static void narrowing() {
        ShadeRows x = ramps();
        x.shading(3, 5.0, 4.0, 6.5, 6.0, 5.5, 1.25);
        x.extend(1, false, true);
        table("narrowing", x, -3, -4, new int[][] {
            {O, O, O, O, O, O, O, O},
            {O, 0x00fa05, 0x10bf40, 0x13b946, 0x00f906, O, O, O},
            {O, 0x12bc43, 0x63609f, 0x8646b9, 0x21a35c, O, O, O},
            {O, 0x17b24d, 0xa234cb, 0xff00ff, 0x348c73, O, O, O},
            {O, 0x00f807, 0x2c956a, 0x3f807f, 0x00f50a, O, O, O},
            {O, O, O, O, O, O, O, O},
        });
    }

    /** Two circles of one radius: a tube, whose points lie on two of its circles. */
    private static void bothRoots() {
        ShadeRows x = ramps();
        x.shading(3, 0.5, 0.5, 5.0, 20.5, 0.5, 5.0);
        // At 3 beside the axis a circle goes 4 to each side: t is (along + 4) / 20, or - 4.
        Check.same("along 6, the greater", x.point(1, 6, 3, 0), 128);
        Check.same("along 16, the greater", x.point(1, 16, -3, 0), 255);
        Check.same("along 18, the other", x.point(1, 18, 3, 0), 179);
        Check.same("along 24, the other", x.point(1, 24, -3, 0), 255);
        Check.same("along 25, none", x.point(1, 25, 3, 0), -1);
        Check.same("along -4, the greater", x.point(1, -4, 3, 0), 0);
        Check.same("along -5, none", x.point(1, -5, 3, 0), -1);
    }

    private static void extended() {
        for (int kind = 2; kind <= 3; kind++) {
            ShadeRows x = ramps();
            double[] n = kind == 2 ? new double[] {0.5, 0.5, 10.5, 0.5, 0.0, 0.0}
                    : new double[] {0.5, 0.5, 2.0, 10.5, 0.5, 2.0};
            x.shading(kind, n[0], n[1], n[2], n[3], n[4], n[5]);
            for (int how = 0; how < 4; how++) {
                boolean begins = how % 2 == 1;
                boolean ends = how / 2 == 1;
                Check.same("extend", x.extend(1, begins, ends), 1);
                Check.same("before, " + how, x.point(1, -7, 0, 0), begins ? 0 : -1);
                Check.same("behind, " + how, x.point(1, 17, 0, 0), ends ? 255 : -1);
                Check.same("between, " + how, x.point(1, 5, 0, 0), kind == 2 ? 128 : 179);
            }
        }
    }

    private static ShadeRows bent(int parts) {
        ShadeRows x = new ShadeRows();
        Made.patch(x, parts);
        double[] xs = {2, 6, 11, 16, 21, 13, 19, 12, 7, -2, -5, 4};
        double[] ys = {-1, -6, 3, -2, 3, 9, 15, 20, 10, 16, 9, 5};
        for (int i = 0; i < 12; i++) {
            x.patch(1, i, xs[i], ys[i]);
        }
        for (int colour : new int[] {0x0000ff, 0x00ff00, 0xff0000, 0x203040}) {
            x.vertex(1, 0.0, 0.0, colour);
        }
        return x;
    }

    private static void bentOfTwo() {
        table("bent, two by two", bent(2), -4, -4, new int[][] {
            {O, O, O, O, O, O, O, O, O, O},
            {O, O, 0x010eec, 0x024aae, 0x08787b, 0x0baa46, 0x0ddc11, O, O, O},
            {O, O, 0x0729b7, 0x0f5584, 0x246568, 0x269634, 0x38ad14, O, O, O},
            {O, O, 0x15328e, 0x2a4272, 0x3f5156, 0x4f6b33, 0x647b18, O, O, O},
            {O, 0x131c8f, 0x272f72, 0x3a4154, 0x564045, 0x6c502a, 0x80610e, 0xa05e00, O, O},
            {O, 0x1c286a, 0x303a4c, 0x4d373f, 0x6d2f35, 0x833c1c, 0xa13c0c, 0xc43402, O, O},
            {O, 0x253344, 0x442d39, 0x64252f, 0x831e26, 0xa21b18, 0xc5130e, 0xe80b05, O, O},
            {O, O, O, O, O, O, O, O, O, O},
        });
    }

    private static void bentOfFour() {
        table("bent, four by four", bent(4), -4, -4, new int[][] {
            {O, O, O, O, O, O, O, O, O, O},
            {O, O, 0x010dec, 0x0b3dac, 0x09747e, 0x02b04d, 0x0ad81c, O, O, O},
            {O, O, 0x0915c9, 0x1c3990, 0x225973, 0x25824f, 0x2ca826, 0x47b601, O, O},
            {O, O, 0x1c288e, 0x323a6d, 0x3e5058, 0x456e3c, 0x55861b, O, O, O},
            {O, 0x172087, 0x352c63, 0x49374f, 0x5b4241, 0x67572b, 0x826111, O, O, O},
            {O, 0x28295e, 0x422a48, 0x5c2c3b, 0x772f30, 0x8d3a20, 0xad390d, O, O, O},
            {O, 0x2b2e43, 0x492734, O, 0x851c24, 0xa11f1a, 0xc01d0d, 0xe70e03, O, O},
            {O, O, O, O, O, O, O, O, O, O},
        });
    }

    /** A patch that is folded, so that it shows which of its triangles is the last one. */
    private static void rowsAndColumns() {
        ShadeRows across = new ShadeRows();
        Made.patch(across, 2.0);
        Made.square(across, 1, 0.0, 0.0, 12.0);
        // Upper and lower side run far to the right and back: the second column lies on the first.
        for (int i : new int[] {1, 2, 7, 8}) {
            across.patch(1, i, 36.0, i < 3 ? 0.0 : 12.0);
        }
        for (int colour : new int[] {0, 240, 240, 0}) {
            across.vertex(1, 0.0, 0.0, colour);
        }
        // The middle column lies at 28.5: 120 + 120 * 8.0 / 16.5; the first has 120 * 20.5 / 28.5.
        Check.same("the second column, on the first", across.point(1, 20, 5, 0), 178);
        Check.same("the first column alone", across.point(1, 5, 5, 0), 23);
        ShadeRows down = new ShadeRows();
        Made.patch(down, 2.0);
        Made.square(down, 1, 0.0, 0.0, 12.0);
        for (int i : new int[] {4, 5, 10, 11}) {
            down.patch(1, i, i < 6 ? 12.0 : 0.0, 36.0);
        }
        for (int colour : new int[] {0, 0, 240, 240}) {
            down.vertex(1, 0.0, 0.0, colour);
        }
        Check.same("the second row, on the first", down.point(1, 5, 20, 0), 178);
        Check.same("the first row alone", down.point(1, 5, 5, 0), 23);
        // A lattice's triangles: of one piece the lower right has nothing of corner 0.
        ShadeRows one = new ShadeRows();
        Made.patch(one, 1.0);
        Made.square(one, 1, 0.0, 0.0, 12.0);
        for (int colour : new int[] {240, 0, 0, 0}) {
            one.vertex(1, 0.0, 0.0, colour);
        }
        Check.same("near corner 0", one.point(1, 0, 0, 0), 220);
        Check.same("beyond the common side", one.point(1, 6, 6, 0), 0);
    }

    /** Turned either way, and begun at each of its corners, it is the same triangle. */
    private static void triangle() {
        double[] xs = {1.0, 9.0, 3.0};
        double[] ys = {2.0, 4.0, 10.0};
        int[] colours = {0x0000f0, 0x00f000, 0xf00000};
        int[][] orders = {{0, 1, 2}, {1, 2, 0}, {2, 0, 1}, {0, 2, 1}, {2, 1, 0}, {1, 0, 2}};
        for (int[] order : orders) {
            ShadeRows x = new ShadeRows();
            Made.free(x);
            for (int i : order) {
                x.vertex(1, xs[i], ys[i], colours[i]);
            }
            // den is 60 or -60; at (4.5, 5.5) the weights are 18, 21 and 21 of 60.
            Check.same("band 0", x.point(1, 4, 5, 0), 72);
            Check.same("band 1", x.point(1, 4, 5, 1), 84);
            Check.same("band 2", x.point(1, 4, 5, 2), 84);
            Check.same("outside", x.point(1, 8, 8, 0), -1);
        }
    }
}
