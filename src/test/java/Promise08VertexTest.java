/** Promise 8: vertex adds vertices with colours. */
public final class Promise08VertexTest {
    public static void main(String[] args) {
        ShadeRows x = new ShadeRows();
        for (int i = 0; i < 3; i++) {
            x.function(1, 0.0, 1.0, 1.0, 0.0);
        }
        x.shading(1, 1.0, 0.0, 0.0, 0.0, 0.0, 0.0);
        x.shading(2, 0.0, 0.0, 1.0, 0.0, 0.0, 0.0);
        x.shading(3, 0.0, 0.0, 1.0, 0.0, 0.0, 2.0);
        x.shading(4, 0.0, 0.0, 0.0, 0.0, 0.0, 0.0);
        x.shading(5, 8.0, 0.0, 0.0, 0.0, 0.0, 0.0);
        x.shading(6, 2.0, 0.0, 0.0, 0.0, 0.0, 0.0);
        for (int kind = 1; kind <= 3; kind++) {
            Check.same("kind " + kind, x.vertex(kind, 0.0, 0.0, 0), 0);
            Check.same("kind, still " + kind, x.vertex(kind, 1.0, 0.0, 0), 0);
        }
        for (int kind = 4; kind <= 6; kind++) {
            refusesPlaces(x, kind);
            for (int i = 1; i <= 60; i++) {
                Check.same("vertex of " + kind, x.vertex(kind, 1.0e6, -1.0e6, i), i);
            }
            Check.same("vertex 61 of " + kind, x.vertex(kind, 0.0, 0.0, 0), 0);
        }
        for (int n : new int[] {-1, 0, 7, 24, 25, Integer.MIN_VALUE}) {
            Check.noSuch("shading " + n, () -> x.vertex(n, 0.0, 0.0, 0));
            Check.noSuch("shading, and place, " + n, () -> x.vertex(n, Double.NaN, 0.0, 0));
        }
        colours();
        Check.end("Promise08VertexTest");
    }

    private static void refusesPlaces(ShadeRows x, int kind) {
        Check.same("x no number", x.vertex(kind, Double.NaN, 0.0, 0), 0);
        Check.same("y no number", x.vertex(kind, 0.0, Double.NaN, 0), 0);
        Check.same("x far", x.vertex(kind, 1000000.5, 0.0, 0), 0);
        Check.same("y far", x.vertex(kind, 0.0, -1000000.5, 0), 0);
    }

    private static void colours() {
        ShadeRows x = new ShadeRows();
        x.shading(4, 0.0, 0.0, 0.0, 0.0, 0.0, 0.0);
        x.vertex(1, 0.0, 0.0, 0x11336699);
        x.vertex(1, 9.0, 0.0, 0xff336699);
        x.vertex(1, 0.0, 9.0, 0x00336699);
        Check.same("band 0 is the lowest byte", x.point(1, 1, 1, 0), 0x99);
        Check.same("band 1", x.point(1, 1, 1, 1), 0x66);
        Check.same("band 2", x.point(1, 1, 1, 2), 0x33);
        x.vertex(1, 0.0, 0.0, -1);
        x.vertex(1, 9.0, 0.0, -1);
        x.vertex(1, 0.0, 9.0, -1);
        for (int band = 0; band < 3; band++) {
            Check.same("all bits", x.point(1, 1, 1, band), 255);
        }
    }
}
