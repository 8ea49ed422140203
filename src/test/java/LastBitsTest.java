/**
 * Answers that hang on the last bit of a sum: each was chosen because another order of the steps,
 * a root of another kind, or one division fewer answers otherwise there. They were told by a
 * telling of the document in another language.
 */
public final class LastBitsTest {
    public static void main(String[] args) {
        Sentence.holds("C = (x - a) * (x - a) + (y - b) * (y - b) - c * c.", LastBitsTest::circles);
        Sentence.holds("t is C / (2.0 * B)", LastBitsTest::circlesWithoutA);
        Sentence.holds("r = 1.0 - p - q: none of them below 0.0", LastBitsTest::sidesOfTriangles);
        Sentence.holds("(int) (p * P's + q * Q's + r * R's + 0.5)", LastBitsTest::tonesOfTriangles);
        Sentence.holds("+ u * bent(3, 4, 5, 6, v) - ((1.0 - u) * (1.0 - v) * 0",
                LastBitsTest::sidesOfPatches);
        Sentence.holds("+ (1.0 - u) * v * c9 + u * v * c6.", LastBitsTest::tonesOfPatches);
        Check.end("LastBitsTest");
    }

    /** The band is 255 just where t is this very number. */
    private static void isT(double[] n, int x, int y, double t) {
        ShadeRows rows = Made.lookingFor(t, Math.nextUp(t), Math.nextDown(t));
        rows.shading(3, n[0], n[1], n[2], n[3], n[4], n[5]);
        String at = "circles at " + x + ", " + y;
        Check.same(at + ": t is " + t, rows.point(1, x, y, 0), 255);
        Check.same(at + ": a hair above", rows.point(1, x, y, 1), 0);
        Check.same(at + ": a hair below", rows.point(1, x, y, 2), 0);
    }

    private static void circles() {
        double[] first = {1.1, 2.0, 2.8, 9.1, 9.6, 5.3};
        isT(first, 8, 10, 0.6317947245232234);
        isT(first, 4, 6, 0.9704881860913585);
        isT(first, 0, 3, 0.3609256320068603);
        double[] second = {3.4, -2.9, 1.4, 9.4, 11.5, 1.7};
        isT(second, 3, -4, 0.05537794320089377);
        isT(second, 5, 3, 0.5245040637418692);
        isT(second, 8, 11, 0.8852721072310193);
        double[] third = {-1.0, -1.1, 1.6, 10.5, 5.5, 8.2};
        isT(third, 7, -1, 0.4118975943347975);
        isT(third, 16, 6, 0.8896487127038858);
        double[] fourth = {1.1, 0.6, 2.3, 14.2, 15.0, 1.2};
        isT(fourth, 1, 2, 0.18138492373629952);
    }

    private static void circlesWithoutA() {
        double[] across = {0.0, 0.0, 0.0, 4.0, 0.0, 4.0};
        isT(across, 3, -3, 0.6607142857142857);
        isT(across, 2, 0, 0.325);
        isT(across, 4, -1, 0.5694444444444444);
        double[] aslant = {1.5, 2.5, 1.0, 4.5, 6.5, 6.0};
        isT(aslant, 0, 8, 0.6923076923076923);
        isT(aslant, 3, 10, 0.7790697674418605);
        isT(aslant, 4, 1, 0.45);
        double[] down = {0.5, 0.5, 3.0, 0.5, 2.5, 5.0};
        isT(down, -2, 4, 0.39285714285714285);
        isT(down, 1, 6, 0.7777777777777778);
    }

    private static void isTone(double[] places, int[] tones, int x, int y, int due) {
        ShadeRows rows = new ShadeRows();
        Made.free(rows);
        for (int i = 0; i < 3; i++) {
            rows.vertex(1, places[2 * i], places[2 * i + 1], tones[i] << 8);
        }
        Check.same("triangle at " + x + ", " + y, rows.point(1, x, y, 1), due);
    }

    private static void sidesOfTriangles() {
        isTone(new double[] {2.6666666666666665, 6.0, 1.5, 1.5, 1.0, 1.6},
                new int[] {154, 82, 112}, 1, 1, 82);
        isTone(new double[] {3.6666666666666665, 0.6666666666666666, 1.0, 14.0,
            3.3333333333333335, 16.0}, new int[] {9, 196, 57}, 1, 11, -1);
        isTone(new double[] {5.0, 0.0, 0.6666666666666666, 13.0, 4.0, 0.9},
                new int[] {143, 106, 44}, 1, 10, 113);
        isTone(new double[] {0.5, 12.0, 0.5, 3.5, 2.5, 10.0}, new int[] {225, 22, 233}, 0, 6, -1);
    }

    private static void tonesOfTriangles() {
        isTone(new double[] {1.0, 2.0, 0.0, 9.0, 9.0, 0.4}, new int[] {119, 134, 189}, 0, 5, 126);
    }

    private static ShadeRows patch(int parts, double[] xs, double[] ys, int... tones) {
        ShadeRows x = new ShadeRows();
        Made.patch(x, parts);
        for (int i = 0; i < 12; i++) {
            x.patch(1, i, xs[i], ys[i]);
        }
        for (int tone : tones) {
            x.vertex(1, 0.0, 0.0, tone);
        }
        return x;
    }

    /** Each row of the picture is a y from top on, each sign an x from left on: # is painted. */
    private static void looksLike(ShadeRows x, int left, int top, String... picture) {
        for (int k = 0; k < picture.length; k++) {
            for (int i = 0; i < picture[k].length(); i++) {
                boolean painted = x.point(1, left + i, top + k, 0) >= 0;
                Check.isTrue("patch at " + (left + i) + ", " + (top + k),
                        painted == (picture[k].charAt(i) == '#'));
            }
        }
    }

    /** Their sides go through the middles of points, but for what the places are rounded by. */
    private static void sidesOfPatches() {
        double[] xs = {-0.5, 3.5, 10.5, 11.5, 11.5, 11.5, 11.5, 7.5, 3.5, -0.5, -3.5, -3.5};
        double[] ys = {-2.5, -2.5, -2.0, -2.5, 1.5, 5.5, 9.5, 9.5, 9.5, 9.5, 8.5, 4.5};
        looksLike(patch(3, xs, ys, 9, 9, 9, 9), -4, -4,
                "..................", "...#...........#..", "...#############..",
                "...#############..", "..##############..", "..##############..",
                "..##############..", ".###############..", ".###############..",
                ".###############..", ".###############..", ".###############..",
                "..##############..", "...#############..", "..................");
        xs = new double[] {-1.5, 1.0, 2.5, 4.5, 4.5, 3.0, 4.5, 2.5, 0.5, -1.5, -1.5, -1.5};
        ys = new double[] {2.5, -0.5, 2.5, 2.5, 6.5, 12.0, 14.5, 14.5, 14.5, 14.5, 10.5, 6.5};
        looksLike(patch(3, xs, ys, 9, 9, 9, 9), -4, 0,
                "..........", "....##....", "..#######.", "..######..", "..######..",
                "..######..", "..######..", "..######..", "..######..", "..######..",
                "..######..", "..######..", "..######..", "..######..", "..#######.");
        foldedSides();
        upperSides();
    }

    private static void foldedSides() {
        double[] xs = {1.5, 2.5, 3.5, 4.5, 4.5, 4.5, 4.5, 3.5, 2.5, 1.5, 4.5, 1.5};
        double[] ys = {3.5, 3.5, 3.5, 3.5, 7.5, 11.5, 15.5, 15.5, 15.5, 15.5, 10.0, 7.5};
        looksLike(patch(5, xs, ys, 9, 9, 9, 9), 0, 2,
                "......", ".#..#.", "..###.", "..###.", "..###.", "..###.", "..###.", "...##.",
                "...##.", "...##.", "...##.", "..###.", "..###.", ".##.#.", "......");
    }

    private static void upperSides() {
        double[] xs = {3.5, 7.0, 9.5, 12.5, 12.5, 13.0, 12.5, 9.5, 6.5, 3.5, 3.5, 3.5};
        double[] ys = {1.5, 0.0, 1.5, 1.5, 5.5, 10.0, 13.5, 13.5, 13.5, 13.5, 9.5, 5.5};
        looksLike(patch(5, xs, ys, 9, 9, 9, 9), 2, 0,
                "............", ".##########.", "..#########.", "..#########.", "..#########.",
                "..#########.", ".##########.", ".##########.", ".##########.", ".##########.",
                ".##########.", ".##########.", ".##########.", ".##########.", "............");
        xs = new double[] {-2.5, 0.5, 3.5, 6.5, 6.5, 6.5, 6.5, 3.5, 0.5, -2.5, 0.5, -2.5};
        ys = new double[] {0.5, 0.5, 0.5, 0.5, 5.5, 10.5, 15.5, 15.5, 15.5, 15.5, 12.0, 5.5};
        looksLike(patch(3, xs, ys, 9, 9, 9, 9), -4, -1,
                "............", ".####..####.", "..#########.", "..#########.", "..#########.",
                "..#########.", "..#########.", "..#########.", "..#########.", "..#########.",
                "...########.", "...########.", "...########.", "..#########.", "..#########.",
                "..#########.", ".##########.", "............");
    }

    private static void tonesOfPatches() {
        double[] xs = {0.5, 4.5, 8.5, 12.5, 12.5, 12.5, 12.5, 8.5, 4.5, 0.5, 0.5, 0.5};
        double[] ys = {0.5, 0.5, 0.5, 0.5, 4.5, 8.5, 12.5, 12.5, 12.5, 12.5, 8.5, 4.5};
        ShadeRows six = patch(6, xs, ys, 130, 183, 14, 238);
        Check.same("a corner's tone is not cut", six.point(1, 2, 0, 0), 139);
        Check.same("nor rounded", six.point(1, 1, 0, 0), 134);
        Check.same("from left to right", patch(3, xs, ys, 135, 33, 169, 154).point(1, 6, 9, 0), 140);
        Check.same("weights first", patch(6, xs, ys, 1, 173, 33, 158).point(1, 1, 8, 0), 104);
    }
}
