/** Promise 7: shading makes shadings, or refuses. */
public final class Promise07ShadingTest {
    private static final double NONE = Double.NaN;
    private static final double FAR = 1000000.5;

    public static void main(String[] args) {
        needsThreeFunctions();
        usesItsOwnNumbers();
        refusesCircles();
        refusesMeshes();
        hasRoomForTwentyFour();
        Check.end("Promise07ShadingTest");
    }

    private static ShadeRows withFunctions(int count) {
        ShadeRows x = new ShadeRows();
        for (int i = 0; i < count; i++) {
            x.function(1, 0.0, 1.0, 1.0, 0.0);
        }
        return x;
    }

    private static void needsThreeFunctions() {
        for (int count = 0; count <= 4; count++) {
            ShadeRows x = withFunctions(count);
            int made = count < 3 ? 0 : 1;
            Check.same("plane of " + count, x.shading(1, 1.0, 0.0, 0.0, 0.0, 0.0, 0.0), made);
            Check.same("line of " + count, x.shading(2, 0.0, 0.0, 1.0, 0.0, 0.0, 0.0), 2 * made);
            Check.same("circles of " + count, x.shading(3, 0.0, 0.0, 1.0, 0.0, 0.0, 2.0), 3 * made);
            Check.same("free of " + count, x.shading(4, 0.0, 0.0, 0.0, 0.0, 0.0, 0.0), 3 * made + 1);
            Check.same("lattice of " + count, x.shading(5, 2.0, 0.0, 0.0, 0.0, 0.0, 0.0), 3 * made + 2);
            Check.same("patch of " + count, x.shading(6, 1.0, 0.0, 0.0, 0.0, 0.0, 0.0), 3 * made + 3);
            Check.same("kind 0", x.shading(0, 2.0, 2.0, 1.0, 0.0, 0.0, 0.0), 0);
            Check.same("kind 7", x.shading(7, 2.0, 2.0, 1.0, 0.0, 0.0, 0.0), 0);
            Check.same("kind -1", x.shading(-1, 2.0, 2.0, 1.0, 0.0, 0.0, 0.0), 0);
        }
    }

    private static int numbersTried(ShadeRows x, int kind, double[] n, int which, double odd) {
        double[] m = n.clone();
        m[which] = odd;
        return x.shading(kind, m[0], m[1], m[2], m[3], m[4], m[5]);
    }

    private static void usesItsOwnNumbers() {
        int[] used = {0, 3, 4, 6, 0, 1, 1};
        double[] right = {2.0, 3.0, 4.0, 5.0, 6.0, 7.0};
        for (int kind = 1; kind <= 6; kind++) {
            for (int which = 0; which < 6; which++) {
                for (double odd : new double[] {NONE, FAR, -FAR, Double.POSITIVE_INFINITY}) {
                    int due = which < used[kind] ? 0 : 1;
                    int got = numbersTried(withFunctions(3), kind, right, which, odd);
                    Check.same("kind " + kind + ", number " + which + " " + odd, got, due);
                }
            }
        }
        ShadeRows x = withFunctions(3);
        Check.same("just good", x.shading(1, 1.0e6, -1.0e6, 1.0e6, NONE, NONE, NONE), 1);
        Check.same("a line of no length", x.shading(2, 3.0, 4.0, 3.0, 4.0, 0.0, 0.0), 0);
        Check.same("a line of none, -0.0", x.shading(2, 0.0, -0.0, -0.0, 0.0, 0.0, 0.0), 0);
        Check.same("a line upwards", x.shading(2, 3.0, 4.0, 3.0, 5.0, 0.0, 0.0), 2);
        Check.same("a line aside", x.shading(2, 3.0, 4.0, 2.0, 4.0, 0.0, 0.0), 3);
        Check.same("a shortest line", x.shading(2, 0.0, 0.0, Double.MIN_VALUE, 0.0, 0.0, 0.0), 4);
    }

    private static void refusesCircles() {
        ShadeRows x = withFunctions(3);
        Check.same("radius below", x.shading(3, 0.0, 0.0, -1.0, 0.0, 0.0, 1.0), 0);
        Check.same("other radius below", x.shading(3, 0.0, 0.0, 1.0, 0.0, 0.0, -1.0e-300), 0);
        Check.same("the same", x.shading(3, 1.0, 2.0, 3.0, 1.0, 2.0, 3.0), 0);
        Check.same("the same points", x.shading(3, 1.0, 2.0, 0.0, 1.0, 2.0, -0.0), 0);
        Check.same("unlike in x", x.shading(3, 1.0, 2.0, 3.0, 4.0, 2.0, 3.0), 1);
        Check.same("unlike in y", x.shading(3, 1.0, 2.0, 3.0, 1.0, 5.0, 3.0), 2);
        Check.same("unlike in radius", x.shading(3, 1.0, 2.0, 3.0, 1.0, 2.0, 0.0), 3);
        Check.same("two points", x.shading(3, 1.0, 2.0, 0.0, 2.0, 2.0, 0.0), 4);
    }

    private static void refusesMeshes() {
        ShadeRows x = new ShadeRows();
        Check.same("one column", x.shading(5, 1.0, 0.0, 0.0, 0.0, 0.0, 0.0), 0);
        Check.same("nine columns", x.shading(5, 9.0, 0.0, 0.0, 0.0, 0.0, 0.0), 0);
        Check.same("half a column", x.shading(5, 2.5, 0.0, 0.0, 0.0, 0.0, 0.0), 0);
        Check.same("no pieces", x.shading(6, 0.0, 0.0, 0.0, 0.0, 0.0, 0.0), 0);
        Check.same("seven pieces", x.shading(6, 7.0, 0.0, 0.0, 0.0, 0.0, 0.0), 0);
        Check.same("half a piece", x.shading(6, 1.5, 0.0, 0.0, 0.0, 0.0, 0.0), 0);
        for (int a = 2; a <= 8; a++) {
            Check.same("columns " + a, x.shading(5, a, NONE, NONE, NONE, NONE, NONE), a - 1);
        }
        for (int a = 1; a <= 6; a++) {
            Check.same("pieces " + a, x.shading(6, a, NONE, NONE, NONE, NONE, NONE), 7 + a);
        }
    }

    private static void hasRoomForTwentyFour() {
        ShadeRows x = withFunctions(3);
        for (int i = 1; i <= 24; i++) {
            int kind = i % 6 + 1;
            Check.same("shading " + i, x.shading(kind, 2.0, 0.0, 1.0, 0.0, 0.0, 1.0), i);
        }
        for (int kind = 1; kind <= 6; kind++) {
            Check.same("shading 25", x.shading(kind, 2.0, 0.0, 1.0, 0.0, 0.0, 1.0), 0);
        }
        Check.noSuch("none is there", () -> x.pieces(25));
        Check.same("the last one is", x.pieces(24), 0);
    }
}
