/** Promise 11: how many triangles a shading has. */
public final class Promise11PiecesTest {
    public static void main(String[] args) {
        ShadeRows x = new ShadeRows();
        for (int i = 0; i < 3; i++) {
            x.function(1, 0.0, 1.0, 1.0, 0.0);
        }
        for (int kind = 1; kind <= 3; kind++) {
            x.shading(kind, 2.0, 0.0, 6.0, 0.0, 0.0, 0.0);
            x.vertex(kind, 0.0, 0.0, 0);
            Check.same("kind " + kind, x.pieces(kind), 0);
        }
        for (int n : new int[] {-1, 0, 4, 25, Integer.MIN_VALUE}) {
            Check.noSuch("shading " + n, () -> x.pieces(n));
        }
        free();
        for (int columns = 2; columns <= 8; columns++) {
            lattice(columns);
        }
        for (int parts = 1; parts <= 6; parts++) {
            patch(parts);
        }
        Check.end("Promise11PiecesTest");
    }

    private static void free() {
        ShadeRows x = new ShadeRows();
        x.shading(4, 0.0, 0.0, 0.0, 0.0, 0.0, 0.0);
        Check.same("no vertices", x.pieces(1), 0);
        for (int i = 1; i <= 60; i++) {
            x.vertex(1, 0.0, 0.0, 0);
            Check.same("vertices " + i, x.pieces(1), i / 3);
        }
        x.vertex(1, 0.0, 0.0, 0);
        Check.same("not more", x.pieces(1), 20);
    }

    private static void lattice(int columns) {
        ShadeRows x = new ShadeRows();
        x.shading(5, columns, 0.0, 0.0, 0.0, 0.0, 0.0);
        Check.same("no vertices", x.pieces(1), 0);
        for (int i = 1; i <= 60; i++) {
            x.vertex(1, i % columns, i / columns, 0);
            int rows = i / columns;
            int due = rows == 0 ? 0 : (rows - 1) * (columns - 1) * 2;
            Check.same("vertices " + i + " by " + columns, x.pieces(1), due);
        }
    }

    private static void patch(int parts) {
        ShadeRows x = new ShadeRows();
        x.shading(6, parts, 0.0, 0.0, 0.0, 0.0, 0.0);
        for (int i = 0; i <= 60; i++) {
            int due = i < 4 ? 0 : parts * parts * 2;
            Check.same("vertices " + i + " of " + parts, x.pieces(1), due);
            x.vertex(1, 0.0, 0.0, 0);
        }
    }
}
