/** Promise 1: a new object has no functions, no steps, no shadings. */
public final class Promise01NewObjectTest {
    public static void main(String[] args) {
        ShadeRows x = new ShadeRows();
        Check.same("error at first", x.error(), 0);
        for (int i = -1; i <= 25; i++) {
            int n = i;
            Check.noSuch("value " + n, () -> x.value(n, 0.5));
            Check.noSuch("sample " + n, () -> x.sample(n, 0, 1));
            Check.noSuch("vertex " + n, () -> x.vertex(n, 0.0, 0.0, 0));
            Check.noSuch("patch " + n, () -> x.patch(n, 0, 0.0, 0.0));
            Check.noSuch("extend " + n, () -> x.extend(n, true, true));
            Check.noSuch("pieces " + n, () -> x.pieces(n));
            Check.noSuch("point " + n, () -> x.point(n, 0, 0, 0));
        }
        Check.noSuch("value far", () -> x.value(Integer.MAX_VALUE, 0.5));
        Check.noSuch("value far below", () -> x.value(Integer.MIN_VALUE, 0.5));
        Check.noSuch("pieces far", () -> x.pieces(Integer.MAX_VALUE));
        Check.noSuch("pieces far below", () -> x.pieces(Integer.MIN_VALUE));
        Check.same("no functions for a plane", x.shading(1, 1.0, 0.0, 0.0, 0.0, 0.0, 0.0), 0);
        Check.same("first shading", x.shading(4, 0.0, 0.0, 0.0, 0.0, 0.0, 0.0), 1);
        Check.same("first step", x.text(5, 0.0), 1);
        Check.same("first function", x.function(3, 0.0, 0.0, 0.0, 0.0), 1);
        ShadeRows other = new ShadeRows();
        Check.noSuch("another object has nothing of it", () -> other.value(1, 0.0));
        Check.same("nor its steps", other.text(5, 0.0), 1);
        Check.same("nor its shadings", other.shading(4, 0.0, 0.0, 0.0, 0.0, 0.0, 0.0), 1);
        Check.end("Promise01NewObjectTest");
    }
}
