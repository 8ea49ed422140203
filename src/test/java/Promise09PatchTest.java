/** Promise 9: patch sets the points of a patch. */
public final class Promise09PatchTest {
    public static void main(String[] args) {
        answers();
        places();
        Check.end("Promise09PatchTest");
    }

    private static void answers() {
        ShadeRows x = new ShadeRows();
        for (int i = 0; i < 3; i++) {
            x.function(1, 0.0, 1.0, 1.0, 0.0);
        }
        for (int kind = 1; kind <= 6; kind++) {
            x.shading(kind, 2.0, 0.0, 1.0, 0.0, 0.0, 1.0);
        }
        for (int kind = 1; kind <= 6; kind++) {
            int n = kind;
            for (int i = 0; i < 12; i++) {
                Check.same("point of " + n, x.patch(n, i, 1.0e6, -1.0e6), n == 6 ? 1 : 0);
                Check.same("x far", x.patch(n, i, 1000000.5, 0.0), 0);
                Check.same("y far", x.patch(n, i, 0.0, -1000000.5), 0);
                Check.same("x no number", x.patch(n, i, Double.NaN, 0.0), 0);
                Check.same("y no number", x.patch(n, i, 0.0, Double.NaN), 0);
            }
            Check.badIndex("point 12 of " + n, () -> x.patch(n, 12, 0.0, 0.0));
            Check.badIndex("point -1 of " + n, () -> x.patch(n, -1, 0.0, 0.0));
            Check.badIndex("point 12, and place", () -> x.patch(n, 12, Double.NaN, 0.0));
        }
        for (int n : new int[] {-1, 0, 7, 25}) {
            Check.noSuch("shading " + n, () -> x.patch(n, 0, 0.0, 0.0));
            Check.noSuch("shading, and point, " + n, () -> x.patch(n, 12, 0.0, 0.0));
        }
    }

    /** A square patch with straight sides; then one side is bent outwards. */
    private static void places() {
        ShadeRows x = new ShadeRows();
        x.shading(6, 6.0, 0.0, 0.0, 0.0, 0.0, 0.0);
        for (int i = 0; i < 4; i++) {
            x.vertex(1, 0.0, 0.0, 100);
        }
        Check.same("all points are at (0.0, 0.0)", x.point(1, 0, 0, 0), -1);
        double[] xs = {0, 4, 8, 12, 12, 12, 12, 8, 4, 0, 0, 0};
        double[] ys = {0, 0, 0, 0, 4, 8, 12, 12, 12, 12, 8, 4};
        for (int i = 0; i < 12; i++) {
            x.patch(1, i, xs[i], ys[i]);
        }
        Check.same("inside", x.point(1, 6, 6, 0), 100);
        Check.same("first point", x.point(1, 0, 0, 0), 100);
        Check.same("last point", x.point(1, 11, 11, 0), 100);
        Check.same("outside", x.point(1, 12, 6, 0), -1);
        Check.same("above", x.point(1, 6, -1, 0), -1);
        x.patch(1, 1, 4.0, -8.0);
        x.patch(1, 2, 8.0, -8.0);
        Check.same("bent", x.point(1, 6, -1, 0), 100);
        Check.same("bent, farther", x.point(1, 6, -6, 0), 100);
        Check.same("bent, too far", x.point(1, 6, -7, 0), -1);
        Check.same("a place that is not good", x.patch(1, 1, Double.NaN, 0.0), 0);
        Check.same("changes nothing", x.point(1, 6, -6, 0), 100);
        Check.badIndex("point 12", () -> x.patch(1, 12, 0.0, 0.0));
        Check.same("nor does that", x.point(1, 6, -6, 0), 100);
    }
}
