/**
 * The document's sums, done as they stand: answers that were told by a third telling of the
 * document, in another language, at places where another order of the steps answers otherwise.
 */
public final class EdgesOfSumsTest {
    private static final int O = -1;

    public static void main(String[] args) {
        Sentence.holds("each + - * / is done as it stands, from the left to the right,"
                + " * and / before + and -.", EdgesOfSumsTest::functions);
        Sentence.holds("With u = (CUT(t, b, c) - b) * (a - 1) / (c - b), and i its whole part",
                EdgesOfSumsTest::wholePart);
        Sentence.holds("t is ((x - a) * (c - a) + (y - b) * (d - b)) / ((c - a) * (c - a) + (d - b)"
                + " * (d - b)).", EdgesOfSumsTest::line);
        Sentence.holds("A = dx * dx + dy * dy - dr * dr, B = (x - a) * dx + (y - b) * dy + c * dr,"
                + " C = (x - a) * (x - a) + (y - b) * (y - b) - c * c.", EdgesOfSumsTest::circles);
        Sentence.holds("p = ((Q.y - R.y) * (x - R.x) + (R.x - Q.x) * (y - R.y)) / den,"
                + " q = ((R.y - P.y) * (x - R.x) + (P.x - R.x) * (y - R.y)) / den,"
                + " r = 1.0 - p - q", EdgesOfSumsTest::free);
        Sentence.holds("of each two rows that are full, and two columns next to each other",
                EdgesOfSumsTest::lattice);
        Sentence.holds("bent(p, q, r, s, u) = w * w * w * p + 3.0 * u * w * w * q + 3.0 * u * u * w"
                + " * r + u * u * u * s, for x and for y", EdgesOfSumsTest::patches);
        Check.end("EdgesOfSumsTest");
    }

    private static void functions() {
        ShadeRows x = new ShadeRows();
        x.function(0, 4.0, 0.1, 0.7, 0.0);
        int[] bytes = {10, 200, 33, 255};
        for (int i = 0; i < 4; i++) {
            x.sample(1, i, bytes[i]);
        }
        Check.same("samples at 0.47", x.value(1, 0.47), 0.22764705882352942);
        Check.same("samples at 0.49", x.value(1, 0.49), 0.162156862745098);
        Check.same("samples at 0.69", x.value(1, 0.69), 0.9564705882352942);
        x.function(1, 0.1, 0.7, 7.0, 0.0);
        Check.same("power at 0.35", x.value(2, 0.35), 0.10038603578125001);
        Check.same("power at 0.77", x.value(2, 0.77), 0.196291139601118);
        Check.same("power at 0.93", x.value(2, 0.93), 0.46102052236454205);
        int itself = Made.itself(x);
        x.function(2, itself, itself, 0.3, 0.0);
        Check.same("stitched at 0.1", x.value(4, 0.1), 0.33333333333333337);
        Check.same("stitched at 0.9", x.value(4, 0.9), 0.8571428571428573);
        ShadeRows y = Made.lookingFor(0.6000000000000001, 0.6, 0.0);
        Made.plane(y, 0.2, 0.4, 0.3);
        Check.same("0.1 + 0.2 + 0.3", y.point(1, 0, 0, 0), 255);
        Check.same("0.1 + (0.2 + 0.3)", y.point(1, 0, 0, 1), 0);
    }

    private static void wholePart() {
        ShadeRows x = new ShadeRows();
        x.function(0, 4.0, 0.0, 3.0, 0.0);
        int[] bytes = {0, 51, 0, 255};
        for (int i = 0; i < 4; i++) {
            x.sample(1, i, bytes[i]);
        }
        Check.same("0.0", x.value(1, 0.0), 0.0);
        Check.same("just below 1.0", x.value(1, Math.nextDown(1.0)), 0.9999999999999999 * 51 / 255.0);
        Check.same("1.0", x.value(1, 1.0), 0.2);
        Check.same("1.75 is not 2", x.value(1, 1.75), 0.2 + 0.75 * -51 / 255.0);
        Check.same("2.0", x.value(1, 2.0), 0.0);
        Check.same("2.5", x.value(1, 2.5), 0.5);
        Check.same("3.0", x.value(1, 3.0), 1.0);
    }

    private static void line() {
        ShadeRows x = Made.lookingFor(0.3720588235294118, 0.5191176470588237, 0.585294117647059);
        Made.line(x, 0.3, -0.7, 9.1, 4.9);
        Check.same("at (3, 1)", x.point(1, 3, 1, 0), 255);
        Check.same("at (1, 7)", x.point(1, 1, 7, 1), 255);
        Check.same("at (5, 2)", x.point(1, 5, 2, 2), 255);
        Check.same("at (5, 3)", x.point(1, 5, 3, 2), 0);
    }

    private static void circles() {
        ShadeRows x = Made.lookingFor(0.6447107577066379, 0.5414874314968233, 0.0);
        x.shading(3, 0.3, -0.7, 1.3, 9.1, 4.9, 3.7);
        Check.same("at (3, 1)", x.point(1, 3, 1, 0), 255);
        Check.same("at (6, 4)", x.point(1, 6, 4, 1), 255);
        Check.same("at (1, 5)", x.point(1, 1, 5, 0), -1);
        ShadeRows y = Made.lookingFor(0.20842844932460527, 0.3232559335136929, 0.1380770795846902);
        y.shading(3, 4.3, 3.7, 1.3, 5.1, 4.9, 7.7);
        Check.same("one in the other, at (3, 1)", y.point(1, 3, 1, 0), 255);
        Check.same("one in the other, at (1, 5)", y.point(1, 1, 5, 1), 255);
        Check.same("one in the other, at (6, 4)", y.point(1, 6, 4, 2), 255);
    }

    /** A table of colours: row k at y0 + 3 * k, column i at x0 + 3 * i, -1 where none is. */
    private static void table(String what, ShadeRows x, int x0, int y0, int[][] due) {
        for (int k = 0; k < due.length; k++) {
            for (int i = 0; i < due[k].length; i++) {
                for (int band = 0; band < 3; band++) {
                    int tone = due[k][i] < 0 ? -1 : due[k][i] >> 8 * band & 255;
                    Check.same(what + " at " + (x0 + 3 * i) + ", " + (y0 + 3 * k) + ", band " + band,
                            x.point(1, x0 + 3 * i, y0 + 3 * k, band), tone);
                }
            }
        }
    }

    private static void free() {
        ShadeRows x = new ShadeRows();
        Made.free(x);
        x.vertex(1, 0.3, 0.7, 0x1234fe);
        x.vertex(1, 17.9, 3.1, 0xfedc01);
        x.vertex(1, 4.4, 15.2, 0x77aa33);
        x.vertex(1, 9.9, 1.1, 0xffffff);
        x.vertex(1, 2.2, 8.8, 0x000000);
        x.vertex(1, 19.5, 17.25, 0x0080ff);
        table("free", x, 0, 0, new int[][] {
            {O, O, O, O, O, O, O},
            {O, 0x4560b8, 0x6c7a91, 0xc5cfd9, 0xb9af43, 0xe0c91c, O},
            {O, 0x4f7199, 0x626c76, 0x839bb4, 0xa3cbf2, O, O},
            {O, 0x59827a, 0x1f3851, 0x40688f, 0x6097cd, O, O},
            {O, O, 0x89ad34, O, 0x1e63a8, 0x3e93e7, O},
            {O, O, O, O, O, O, O},
        });
    }

    private static void lattice() {
        ShadeRows x = new ShadeRows();
        Made.lattice(x, 3.0);
        double[] xs = {0, 6.25, 13, 1, 7, 12, -1, 5, 14};
        double[] ys = {0, 1, -1, 7, 6.5, 8, 14, 12, 13};
        int[] colours = {0x0000ff, 0x00ff00, 0xff0000, 0x123456, 0xabcdef, 0xffffff, 0x808080,
            0x00ffff, 0x7f0000};
        for (int i = 0; i < 9; i++) {
            x.vertex(1, xs[i], ys[i], colours[i]);
        }
        table("lattice", x, -1, 0, new int[][] {
            {O, 0x006697, O, 0x59a907, 0xe1352c, O},
            {O, 0x086b5f, 0x2fce4d, 0xa49e84, 0xef7e85, O},
            {O, 0x2e5f6d, 0x81a8c4, 0xc3cfe7, 0xf4d4d8, O},
            {O, 0x768ba0, 0x5cdded, 0x8bf9fd, 0xc5cdcd, O},
            {0x6a7279, 0x44c4c6, O, O, 0x635050, O},
        });
    }

    private static ShadeRows bentPatch(int parts) {
        ShadeRows x = new ShadeRows();
        Made.patch(x, parts);
        double[] xs = {1, 5, 9, 14, 18, 11, 15, 10, 6, 0, -4, 3};
        double[] ys = {2, -3, 6, 1, 4, 8, 13, 17, 9, 14, 10, 6};
        for (int i = 0; i < 12; i++) {
            x.patch(1, i, xs[i], ys[i]);
        }
        for (int colour : new int[] {0x1020f0, 0xf08010, 0x40ff60, 0x9000ff}) {
            x.vertex(1, 0.0, 0.0, colour);
        }
        return x;
    }

    private static void patches() {
        table("patch of 1", bentPatch(1), -3, -1, new int[][] {
            {O, O, O, O, O, O, O, O},
            {O, O, 0x4431c5, 0x7a4791, 0xb15c5d, 0xe4732a, O, O},
            {O, O, 0x682bc4, 0x9f4190, 0xcd5a5f, 0xba8f41, O, O},
            {O, 0x560ff7, 0x8d25c4, 0xb54094, 0xa27576, 0x8faa57, O, O},
            {O, 0x7b09f7, 0x9d27c9, 0x8b5cab, 0x78908c, 0x65c56e, O, O},
            {O, O, O, O, O, O, O, O},
        });
        table("patch of 3", bentPatch(3), -3, -1, new int[][] {
            {O, O, O, O, O, O, O, O},
            {O, O, 0x4f31c2, 0x754c93, 0xa76259, 0xcd7b31, O, O},
            {O, O, 0x5b33cb, 0x7056a2, 0x877177, 0x9e944f, O, O},
            {O, 0x6219ea, 0x6c46c5, 0x726b9f, 0x7c8d79, 0x7cbf55, O, O},
            {O, 0x7b14f0, 0x7a3bd5, 0x7568b3, 0x699c8a, 0x63ca6c, O, O},
            {O, O, O, O, O, O, O, O},
        });
        table("patch of 6", bentPatch(6), -3, -1, new int[][] {
            {O, O, O, O, O, O, O, O},
            {O, O, 0x412ed0, 0x6b4a9d, 0xa66259, 0xcf792f, O, O},
            {O, O, 0x5e36ca, 0x7156a1, 0x877177, 0xa38e4c, O, O},
            {O, 0x631ce9, 0x6d46c5, 0x716ca0, 0x7c8d79, 0x82b954, O, O},
            {O, 0x7c19ee, 0x7a3dd5, 0x6d72af, 0x68a583, 0x5ed564, O, O},
            {O, O, O, O, O, O, O, O},
        });
    }
}
