/** The edges in what the document says of triangles, lattices and patches. */
public final class EdgesOfMeshesTest {
    public static void main(String[] args) {
        Sentence.holds("4 FREE triangles: of VERTICES, by threes.", EdgesOfMeshesTest::byThrees);
        Sentence.holds("5 LATTICE: a vertices (2 .. 8, whole) in a row", EdgesOfMeshesTest::columns);
        Sentence.holds("of each two rows that are full, and two columns next to each other,"
                + " triangles upper left, upper right, lower left; upper right, lower left,"
                + " lower right.", EdgesOfMeshesTest::fullRows);
        Sentence.holds("6 PATCH, of a (1 .. 6, whole) by a pieces", EdgesOfMeshesTest::howManyPieces);
        Sentence.holds("POINTS 0 .. 11, at first (0.0, 0.0), around: corners 0, 3, 6, 9.",
                EdgesOfMeshesTest::points);
        Sentence.holds("Its four first vertices tell the colours of the corners 0, 3, 6, 9",
                EdgesOfMeshesTest::corners);
        Sentence.holds("the place at (u, v) is (1.0 - v) * bent(0, 1, 2, 3, u) + v * bent(9, 8, 7, 6,"
                + " u) + (1.0 - u) * bent(0, 11, 10, 9, v) + u * bent(3, 4, 5, 6, v)",
                EdgesOfMeshesTest::sidesOfPatches);
        Sentence.holds("(their places do not matter; without four there are no triangles)",
                EdgesOfMeshesTest::fourVertices);
        Sentence.holds("and if it is not 0.0", EdgesOfMeshesTest::flat);
        Sentence.holds("none of them below 0.0: it is painted", EdgesOfMeshesTest::sides);
        Sentence.holds("each band is (int) (p * P's + q * Q's + r * R's + 0.5).",
                EdgesOfMeshesTest::tones);
        Sentence.holds("The last triangle that paints a point counts.", EdgesOfMeshesTest::lastOne);
        Check.end("EdgesOfMeshesTest");
    }

    private static void byThrees() {
        ShadeRows x = new ShadeRows();
        Made.free(x);
        Check.same("without vertices", x.point(1, 0, 0, 0), -1);
        Check.same("no pieces", x.pieces(1), 0);
        // Twenty triangles side by side, each of its own colour.
        for (int i = 0; i < 20; i++) {
            x.vertex(1, 10.0 * i, 0.0, i);
            Check.same("with one more", x.pieces(1), i);
            x.vertex(1, 10.0 * i + 8.0, 0.0, i);
            Check.same("with two more", x.pieces(1), i);
            Check.same("not painted yet", x.point(1, 10 * i + 1, 1, 0), -1);
            x.vertex(1, 10.0 * i, 8.0, i);
            Check.same("with three more", x.pieces(1), i + 1);
            Check.same("painted now", x.point(1, 10 * i + 1, 1, 0), i);
        }
        Check.same("no room for a vertex", x.vertex(1, 0.0, 0.0, 255), 0);
        Check.same("nor for a triangle", x.pieces(1), 20);
        Check.same("the first one", x.point(1, 1, 1, 0), 0);
        Check.same("the last one", x.point(1, 191, 1, 0), 19);
        Check.same("nothing between them", x.point(1, 9, 1, 0), -1);
    }

    private static void columns() {
        double[] wrong = {1.0, 0.0, -2.0, Math.nextDown(2.0), Math.nextUp(2.0), 2.5,
            Math.nextDown(8.0), Math.nextUp(8.0), 9.0, 4294967298.0};
        for (double a : wrong) {
            Check.same("columns " + a, Made.lattice(new ShadeRows(), a), 0);
        }
        for (int a = 2; a <= 8; a++) {
            ShadeRows x = new ShadeRows();
            Check.same("columns " + a, Made.lattice(x, a), 1);
            for (int i = 0; i < 2 * a; i++) {
                Check.same("not yet", x.pieces(1), 0);
                x.vertex(1, i % a * 2.0, i / a * 2.0, 9);
            }
            Check.same("two rows of " + a, x.pieces(1), 2 * (a - 1));
            Check.same("first column", x.point(1, 0, 0, 0), 9);
            Check.same("last column", x.point(1, 2 * a - 3, 1, 0), 9);
            Check.same("behind it", x.point(1, 2 * a - 2, 1, 0), -1);
        }
    }

    private static void fullRows() {
        for (int a = 2; a <= 8; a++) {
            ShadeRows x = new ShadeRows();
            Made.lattice(x, a);
            int rows = 60 / a;
            for (int i = 0; i < 60; i++) {
                int full = i / a;
                Check.same("full rows " + full, x.pieces(1), full < 2 ? 0 : 2 * (full - 1) * (a - 1));
                Check.same("vertex", x.vertex(1, i % a * 2.0, i / a * 2.0, i / a), i + 1);
            }
            Check.same("all rows", x.pieces(1), 2 * (rows - 1) * (a - 1));
            Check.same("the last full row", x.point(1, 0, 2 * rows - 3, 0), rows - 1);
            Check.same("a row that is not full", x.point(1, 0, 2 * rows - 1, 0), -1);
        }
        ShadeRows x = new ShadeRows();
        Made.lattice(x, 2.0);
        // A square of 4 by 4, whose lower right corner alone has a colour.
        Made.triangle(x, 1, 0, 0.0, 0.0, 4.0, 0.0, 0.0, 4.0);
        Check.same("one row and a half", x.point(1, 0, 0, 0), -1);
        x.vertex(1, 4.0, 4.0, 240);
        Check.same("upper left has nothing of it", x.point(1, 1, 1, 0), 0);
        Check.same("their common side", x.point(1, 1, 2, 0), 0);
        Check.same("lower right", x.point(1, 2, 2, 0), 60);
        Check.same("its corner", x.point(1, 3, 3, 0), 180);
    }

    private static void howManyPieces() {
        double[] wrong = {0.0, -1.0, Math.nextDown(1.0), Math.nextUp(1.0), 1.5,
            Math.nextDown(6.0), Math.nextUp(6.0), 7.0, 4294967297.0};
        for (double a : wrong) {
            Check.same("pieces " + a, Made.patch(new ShadeRows(), a), 0);
        }
        for (int a = 1; a <= 6; a++) {
            ShadeRows x = new ShadeRows();
            Check.same("pieces " + a, Made.patch(x, a), 1);
            Made.square(x, 1, 0.0, 0.0, 12.0);
            Made.triangle(x, 1, 9, 0.0, 0.0, 0.0, 0.0, 0.0, 0.0, 0.0, 0.0);
            Check.same("triangles of " + a, x.pieces(1), 2 * a * a);
            for (int i = 0; i < 12; i++) {
                Check.same("painted", x.point(1, i, 11 - i, 0), 9);
                Check.same("painted, down", x.point(1, i, i, 0), 9);
            }
            Check.same("left of it", x.point(1, -1, 6, 0), -1);
            Check.same("right of it", x.point(1, 12, 6, 0), -1);
            Check.same("above it", x.point(1, 6, -1, 0), -1);
            Check.same("below it", x.point(1, 6, 12, 0), -1);
        }
    }

    private static void points() {
        ShadeRows x = new ShadeRows();
        Made.patch(x, 1.0);
        Made.triangle(x, 1, 9, 0.0, 0.0, 0.0, 0.0, 0.0, 0.0, 0.0, 0.0);
        Check.same("triangles are there", x.pieces(1), 2);
        Check.same("all are flat at (0.0, 0.0)", x.point(1, 0, 0, 0), -1);
        Check.same("flat, at the other side", x.point(1, -1, -1, 0), -1);
        x.patch(1, 3, 8.0, 0.0);
        Check.same("two corners", x.point(1, 1, 1, 0), -1);
        x.patch(1, 9, 0.0, 8.0);
        Check.same("three corners", x.point(1, 1, 1, 0), 9);
        // Corner 6 still lies at (0.0, 0.0), and so the second triangle on the first one.
        Check.same("not the fourth", x.point(1, 6, 6, 0), -1);
        x.patch(1, 6, 8.0, 8.0);
        Check.same("four corners", x.point(1, 6, 6, 0), 9);
        x.patch(1, 0, 4.0, 4.0);
        Check.same("corner 0", x.point(1, 1, 1, 0), -1);
        // Of one piece the corners alone count; of two the others bend its sides.
        for (int i : new int[] {1, 2, 4, 5, 7, 8, 10, 11}) {
            x.patch(1, i, 100.0, 100.0);
        }
        Check.same("the others do not matter to one piece", x.point(1, 6, 6, 0), 9);
        int[][] beyond = {{6, -1}, {6, -1}, {12, 6}, {12, 6}, {6, 12}, {6, 12}, {-1, 6}, {-1, 6}};
        int[] bends = {1, 2, 4, 5, 7, 8, 10, 11};
        double[][] to = {{4, -12}, {8, -12}, {24, 4}, {24, 8}, {8, 24}, {4, 24}, {-12, 8}, {-12, 4}};
        for (int k = 0; k < bends.length; k++) {
            ShadeRows y = new ShadeRows();
            Made.patch(y, 6.0);
            Made.square(y, 1, 0.0, 0.0, 12.0);
            Made.triangle(y, 1, 9, 0.0, 0.0, 0.0, 0.0, 0.0, 0.0, 0.0, 0.0);
            Check.same("straight", y.point(1, beyond[k][0], beyond[k][1], 0), -1);
            Check.same("point " + bends[k], y.patch(1, bends[k], to[k][0], to[k][1]), 1);
            Check.same("bent by " + bends[k], y.point(1, beyond[k][0], beyond[k][1], 0), 9);
        }
    }

    private static void corners() {
        int[] at = {0, 3, 6, 9};
        int[][] near = {{-40, 70}, {-29, 70}, {-29, 81}, {-40, 81}};
        for (int k = 0; k < 4; k++) {
            ShadeRows x = new ShadeRows();
            Made.patch(x, 6.0);
            Made.square(x, 1, -40.0, 70.0, 12.0);
            for (int i = 0; i < 4; i++) {
                x.vertex(1, 0.0, 0.0, i == k ? 0x00ff00 : 0);
            }
            for (int i = 0; i < 4; i++) {
                int tone = x.point(1, near[i][0], near[i][1], 1);
                Check.isTrue("corner " + at[k] + " at " + at[i], i == k ? tone > 200 : tone < 20);
                Check.same("no other band", x.point(1, near[i][0], near[i][1], 0), 0);
            }
        }
    }

    /** A square of 8 by 8 whose places are all told without rounding, for one or two pieces. */
    private static ShadeRows exactSquare(int parts, double left, double top) {
        ShadeRows x = new ShadeRows();
        Made.patch(x, parts);
        double[] across = {0, 2, 6, 8, 8, 8, 8, 6, 2, 0, 0, 0};
        double[] down = {0, 0, 0, 0, 2, 6, 8, 8, 8, 8, 6, 2};
        for (int i = 0; i < 12; i++) {
            x.patch(1, i, left + across[i], top + down[i]);
        }
        Made.triangle(x, 1, 9, 0.0, 0.0, 0.0, 0.0, 0.0, 0.0, 0.0, 0.0);
        return x;
    }

    /** Points whose middles lie just on the sides: the last bit of a place would lose them. */
    private static void sidesOfPatches() {
        for (int parts = 1; parts <= 2; parts++) {
            for (int at = -20; at <= 20; at += 4) {
                ShadeRows x = exactSquare(parts, at + 0.5, -at + 0.5);
                for (int k = 0; k <= 8; k++) {
                    Check.same("upper side", x.point(1, at + k, -at, 0), 9);
                    Check.same("lower side", x.point(1, at + k, -at + 8, 0), 9);
                    Check.same("left side", x.point(1, at, -at + k, 0), 9);
                    Check.same("right side", x.point(1, at + 8, -at + k, 0), 9);
                    Check.same("above", x.point(1, at + k, -at - 1, 0), -1);
                    Check.same("below", x.point(1, at + k, -at + 9, 0), -1);
                    Check.same("left", x.point(1, at - 1, -at + k, 0), -1);
                    Check.same("right", x.point(1, at + 9, -at + k, 0), -1);
                }
            }
            ShadeRows aside = exactSquare(parts, 0.5 + 0x1p-40, 0.5 - 0x1p-40);
            Check.same("a hair right of it", aside.point(1, 0, 4, 0), -1);
            Check.same("its right side", aside.point(1, 8, 4, 0), 9);
            Check.same("a hair below it", aside.point(1, 4, 8, 0), -1);
            Check.same("its upper side", aside.point(1, 4, 0, 0), 9);
        }
    }

    private static void fourVertices() {
        ShadeRows x = new ShadeRows();
        Made.patch(x, 3.0);
        Made.square(x, 1, 0.0, 0.0, 12.0);
        double[] far = {Made.MOST, -Made.MOST, 0.0, 5.0};
        for (int i = 0; i < 4; i++) {
            Check.same("pieces of " + i, x.pieces(1), 0);
            Check.same("not painted by " + i, x.point(1, 5, 5, 0), -1);
            Check.same("vertex", x.vertex(1, far[i], far[3 - i], 9), i + 1);
        }
        Check.same("pieces of four", x.pieces(1), 18);
        Check.same("painted by four", x.point(1, 5, 5, 0), 9);
        for (int i = 5; i <= 60; i++) {
            Check.same("one more", x.vertex(1, i, i, 255), i);
        }
        Check.same("pieces of sixty", x.pieces(1), 18);
        Check.same("no other colour", x.point(1, 5, 5, 0), 9);
        Check.same("no other place", x.point(1, 30, 30, 0), -1);
    }

    private static void flat() {
        ShadeRows x = new ShadeRows();
        Made.free(x);
        Made.triangle(x, 1, 1, 0.5, 0.5, 0.5, 0.5, 0.5, 0.5);
        Made.triangle(x, 1, 2, 0.5, 0.5, 4.5, 0.5, 8.5, 0.5);
        Made.triangle(x, 1, 3, 0.5, 0.5, 0.5, 4.5, 0.5, 8.5);
        Made.triangle(x, 1, 4, 0.5, 0.5, 4.5, 4.5, 8.5, 8.5);
        Check.same("they are pieces", x.pieces(1), 4);
        Check.same("a point", x.point(1, 0, 0, 0), -1);
        Check.same("across", x.point(1, 4, 0, 0), -1);
        Check.same("down", x.point(1, 0, 4, 0), -1);
        Check.same("aslant", x.point(1, 4, 4, 0), -1);
        // den is a hair above 0.0, then a hair below.
        Made.triangle(x, 1, 5, 0.5, 0.5, Math.nextUp(0.5), 0.5, 0.5, 8.5);
        Check.same("as thin as may be", x.point(1, 0, 4, 0), 5);
        Made.triangle(x, 1, 6, 0.5, 8.5, Math.nextUp(0.5), 0.5, 0.5, 0.5);
        Check.same("as thin, turned", x.point(1, 0, 4, 0), 6);
        Check.same("beside it", x.point(1, 1, 4, 0), -1);
        // den is the least number of all, so that p has no end and r neither.
        Made.triangle(x, 1, 7, Double.MIN_VALUE, 0.0, 0.0, 1.0, 0.0, 0.0);
        Check.same("no end", x.point(1, 1, 0, 0), -1);
        Check.same("no end, left", x.point(1, -1, 0, 0), -1);
    }

    private static void sides() {
        ShadeRows x = new ShadeRows();
        Made.free(x);
        Made.triangle(x, 1, 7, 4.5, 0.5, 0.5, 4.5, 0.5, 0.5);
        int[][] on = {{0, 0}, {4, 0}, {0, 4}, {2, 0}, {0, 2}, {2, 2}, {1, 1}, {1, 3}, {3, 1}};
        for (int[] at : on) {
            Check.same("on " + at[0] + " " + at[1], x.point(1, at[0], at[1], 0), 7);
        }
        int[][] off = {{-1, 0}, {0, -1}, {-1, 5}, {5, -1}, {5, 0}, {0, 5}, {3, 2}, {2, 3}, {-1, -1}};
        for (int[] at : off) {
            Check.same("off " + at[0] + " " + at[1], x.point(1, at[0], at[1], 0), -1);
        }
        double hair = Math.nextUp(0.5);
        ShadeRows y = new ShadeRows();
        Made.free(y);
        Made.triangle(y, 1, 7, 4.5, hair, hair, 4.5, hair, hair);
        Check.same("p is a hair below 0.0", y.point(1, 0, 1, 0), -1);
        Check.same("q is a hair below 0.0", y.point(1, 1, 0, 0), -1);
        Check.same("none is", y.point(1, 1, 1, 0), 7);
        ShadeRows z = new ShadeRows();
        Made.free(z);
        // At (2.5, 0.5) r is 1.0 - 0.8333333333333334 - 0.16666666666666666, below 0.0.
        Made.triangle(z, 1, 7, 3.0, 0.0, 0.0, 3.0, 0.0, 0.0);
        Check.same("r is a hair below 0.0", z.point(1, 2, 0, 0), -1);
        Check.same("r is 0.0", z.point(1, 1, 1, 0), 7);
    }

    private static void tones() {
        ShadeRows x = new ShadeRows();
        Made.free(x);
        x.vertex(1, 0.5, 0.5, 0xff0000);
        x.vertex(1, 8.5, 0.5, 0xff00ff);
        x.vertex(1, 0.5, 8.5, 0xff0001);
        Check.same("at P", x.point(1, 0, 0, 0), 0);
        Check.same("at Q", x.point(1, 8, 0, 0), 255);
        Check.same("at R", x.point(1, 0, 8, 0), 1);
        Check.same("127.5", x.point(1, 4, 0, 0), 128);
        Check.same("just 0.5", x.point(1, 0, 4, 0), 1);
        Check.same("0.375", x.point(1, 0, 3, 0), 0);
        Check.same("95.625", x.point(1, 3, 0, 0), 96);
        Check.same("band 1 has none", x.point(1, 3, 3, 1), 0);
        // R lies a hair lower: half way its weight is 0.4999999999999999.
        ShadeRows y = new ShadeRows();
        Made.free(y);
        Made.triangle(y, 1, 0, 0.5, 0.5, 8.5, 0.5);
        y.vertex(1, 0.5, Math.nextUp(8.5), 0x000001);
        Check.same("just below 0.5", y.point(1, 0, 4, 0), 0);
        Check.same("band 2 has all", x.point(1, 3, 3, 2), 255);
    }

    private static void lastOne() {
        ShadeRows x = new ShadeRows();
        Made.free(x);
        for (int i = 1; i <= 20; i++) {
            Made.triangle(x, 1, i, 0.0, 0.0, 9.0, 0.0, 0.0, 9.0);
            Check.same("triangle " + i, x.point(1, 1, 1, 0), i);
        }
        ShadeRows y = new ShadeRows();
        Made.free(y);
        Made.triangle(y, 1, 1, 0.0, 0.0, 9.0, 0.0, 0.0, 9.0);
        Made.triangle(y, 1, 2, 0.0, 0.0, 5.0, 0.0, 0.0, 5.0);
        Made.triangle(y, 1, 0, 0.0, 0.0, 2.0, 0.0, 0.0, 2.0);
        Made.triangle(y, 1, 4, 50.0, 0.0, 59.0, 0.0, 50.0, 9.0);
        Check.same("the third, though it is black", y.point(1, 0, 0, 0), 0);
        Check.same("the second", y.point(1, 2, 1, 0), 2);
        Check.same("the first", y.point(1, 5, 2, 0), 1);
        Check.same("the fourth, elsewhere", y.point(1, 51, 2, 0), 4);
        // A lattice that is folded upon itself: rows at 0.0, 8.0 and 0.0 again.
        ShadeRows z = new ShadeRows();
        Made.lattice(z, 2.0);
        for (int row = 0; row < 3; row++) {
            double down = row == 1 ? 8.0 : 0.0;
            Made.triangle(z, 1, 40 * row, 0.0, down, 8.0, down);
        }
        Check.same("the last row's", z.point(1, 3, 3, 0), 63);
        // Its lower right corner lies on the upper left one: both triangles of the pair, the same.
        ShadeRows folded = new ShadeRows();
        Made.lattice(folded, 2.0);
        Made.triangle(folded, 1, 16, 0.0, 0.0, 8.0, 0.0, 0.0, 8.0);
        folded.vertex(1, 0.0, 0.0, 240);
        Check.same("the second one of a pair", folded.point(1, 1, 1, 0), 156);
    }
}
