/** Promise 10: extend paints beyond the begin and the end of lines and circles. */
public final class Promise10ExtendTest {
    public static void main(String[] args) {
        ShadeRows x = new ShadeRows();
        x.function(1, 0.0, 1.0, 1.0, 0.0);
        x.function(1, 1.0, 0.0, 1.0, 0.0);
        x.function(1, 0.5, 0.5, 1.0, 0.0);
        for (int kind = 1; kind <= 6; kind++) {
            x.shading(kind, 2.0, 0.0, kind == 3 ? 0.0 : 6.0, kind == 3 ? 6.0 : 0.0, 0.0, 0.0);
        }
        for (int kind = 1; kind <= 6; kind++) {
            int due = kind == 2 || kind == 3 ? 1 : 0;
            Check.same("extend " + kind, x.extend(kind, true, true), due);
            Check.same("not extend " + kind, x.extend(kind, false, false), due);
        }
        for (int n : new int[] {-1, 0, 7, 25, Integer.MAX_VALUE}) {
            Check.noSuch("shading " + n, () -> x.extend(n, true, true));
        }
        line(x);
        circles();
        Check.end("Promise10ExtendTest");
    }

    private static void line(ShadeRows x) {
        for (int turn = 0; turn < 8; turn++) {
            boolean begins = turn % 2 == 1;
            boolean ends = turn / 2 % 2 == 1;
            x.extend(2, begins, ends);
            Check.same("before the begin", x.point(2, 1, 3, 0), begins ? 0 : -1);
            Check.same("before the begin, band 1", x.point(2, -9, 3, 1), begins ? 255 : -1);
            Check.same("behind the end", x.point(2, 6, 3, 0), ends ? 255 : -1);
            Check.same("behind the end, band 2", x.point(2, 99, 3, 2), ends ? 128 : -1);
            Check.same("between", x.point(2, 2, 3, 0), 32);
        }
    }

    /** From a circle around (0, 0) to one around (10, 0), both of radius 2. */
    private static void circles() {
        ShadeRows x = new ShadeRows();
        for (int i = 0; i < 3; i++) {
            x.function(1, 0.0, 1.0, 1.0, 0.0);
        }
        x.shading(3, 0.0, 0.0, 2.0, 10.0, 0.0, 2.0);
        Check.same("not extended, before", x.point(1, -9, 0, 0), -1);
        Check.same("not extended, behind", x.point(1, 15, 0, 0), -1);
        x.extend(1, true, false);
        Check.same("begins, before", x.point(1, -9, 0, 0), 0);
        Check.same("begins, behind", x.point(1, 15, 0, 0), -1);
        x.extend(1, false, true);
        Check.same("ends, before", x.point(1, -9, 0, 0), -1);
        Check.same("ends, behind", x.point(1, 15, 0, 0), 255);
        Check.same("beside", x.point(1, 5, 2, 0), -1);
    }
}
