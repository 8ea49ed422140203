/** The edges in what the twelve promises say: refusals, exceptions, and what they leave alone. */
public final class EdgesOfCallsTest {
    public static void main(String[] args) {
        Sentence.holds("A call that throws changes nothing", EdgesOfCallsTest::changesNothing);
        Sentence.holds("where several exceptions that a call names fit, it is the one that it names"
                + " first.", EdgesOfCallsTest::firstException);
        Sentence.holds("NoSuchElementException: there is no such function, or shading.",
                EdgesOfCallsTest::noSuch);
        Sentence.holds("No functions, no steps, no shadings.", EdgesOfCallsTest::newObject);
        Sentence.holds("A step is collected: how many there are; 0 (and it is not) when op is not"
                + " 0 .. 13, v not good, or there are 24.", EdgesOfCallsTest::text);
        Sentence.holds("A function: its number; 0 when a number is not as it must be, or there are"
                + " 24.", EdgesOfCallsTest::function);
        Sentence.holds("Numbers that its kind uses must be GOOD, too; others do not matter",
                EdgesOfCallsTest::otherNumbers);
        Sentence.holds("of kind 3 the steps are gone then, either way.", EdgesOfCallsTest::stepsGone);
        Sentence.holds("Sample i of a sampled function becomes the byte v (its lowest eight bits):"
                + " what it was. NoSuchElementException (also of another kind);"
                + " ArrayIndexOutOfBoundsException.", EdgesOfCallsTest::sample);
        Sentence.holds("The VALUE of a function. NoSuchElementException; IllegalArgumentException"
                + " when t is not good.", EdgesOfCallsTest::value);
        Sentence.holds("The ERROR of the latest value(); 0 at first.", EdgesOfCallsTest::error);
        Sentence.holds("A shading: its number; 0 when a number is not as it must be (one that its"
                + " kind uses must be GOOD, too), there are fewer than three functions (kinds 1 to"
                + " 3), or there are 24 shadings.", EdgesOfCallsTest::shading);
        Sentence.holds("SHADINGS 1, 2, .. (24 at most) have a kind and numbers a .. f.",
                EdgesOfCallsTest::twentyFourShadings);
        Sentence.holds("A vertex with a colour (band 0 the lowest byte; the lowest 24 bits) of a"
                + " shading of kind 4 to 6: how many it has; 0 (and there is none more) for another"
                + " kind, places that are not good, or 60 vertices. NoSuchElementException.",
                EdgesOfCallsTest::vertex);
        Sentence.holds("Point i of a patch: 1; 0 for another kind, or a place that is not good."
                + " NoSuchElementException; ArrayIndexOutOfBoundsException.",
                EdgesOfCallsTest::patch);
        Sentence.holds("A shading of kind 2 or 3 is extended, or not: 1; 0 for another kind."
                + " NoSuchElementException.", EdgesOfCallsTest::extend);
        Sentence.holds("How many triangles a shading has; 0 of kinds 1 to 3. NoSuchElementException.",
                EdgesOfCallsTest::pieces);
        Sentence.holds("A band of the colour at a point; -1 where it is not painted."
                + " NoSuchElementException; ArrayIndexOutOfBoundsException for another band;"
                + " IllegalArgumentException when x or y is not -10000 .. 10000.",
                EdgesOfCallsTest::point);
        Sentence.holds("An object is used for at most 512 calls after it has been made",
                EdgesOfCallsTest::manyCalls);
        Check.end("EdgesOfCallsTest");
    }

    /** Six functions, of which 4 has samples, 5 an error at 0.0; six shadings; two steps. */
    private static ShadeRows furnished() {
        ShadeRows x = Made.oneOfEachKind();
        x.function(0, 3.0, 0.0, 1.0, 0.0);
        x.sample(4, 1, 100);
        x.function(1, 0.0, 1.0, 0.0, 0.0);
        Made.text(x, 7, 3);
        x.extend(2, true, false);
        for (int s = 4; s <= 6; s++) {
            Made.triangle(x, s, 50 + s, 0.0, 0.0, 9.0, 0.0, 0.0, 9.0, 9.0, 9.0);
        }
        Made.square(x, 6, 0.0, 0.0, 9.0);
        Made.steps(x, 5, 6);
        x.value(5, 0.0);
        return x;
    }

    /** All that can be seen of it, at last what seeing itself changes. */
    private static String seen(ShadeRows x) {
        StringBuilder told = new StringBuilder();
        told.append(x.error()).append(' ');
        for (int s = 1; s <= 6; s++) {
            told.append(x.pieces(s)).append(':');
            for (int at = -3; at <= 12; at += 3) {
                told.append(x.point(s, at, 1, 0)).append(',');
            }
        }
        for (int f = 1; f <= 6; f++) {
            told.append(' ').append(x.value(f, 0.5)).append(x.error());
        }
        for (int i = 0; i < 3; i++) {
            told.append(' ').append(x.sample(4, i, 0));
        }
        told.append(" next ").append(x.text(9, 0.0));
        told.append(' ').append(x.function(1, 0.0, 1.0, 1.0, 0.0));
        told.append(' ').append(Made.free(x));
        for (int s = 4; s <= 6; s++) {
            told.append(' ').append(x.vertex(s, 0.0, 0.0, 0));
        }
        return told.toString();
    }

    private static void unchanged(String what, java.util.function.Consumer<ShadeRows> call) {
        ShadeRows x = furnished();
        boolean threw = false;
        try {
            call.accept(x);
        } catch (RuntimeException e) {
            threw = true;
        }
        Check.isTrue(what + " throws", threw);
        Check.isTrue(what + " changes nothing", seen(x).equals(seen(furnished())));
    }

    private static void changesNothing() {
        for (int n : new int[] {0, 7, 25, -1}) {
            unchanged("sample, function", x -> x.sample(n, 1, 9));
            unchanged("value, function", x -> x.value(n, 0.5));
            unchanged("vertex, shading", x -> x.vertex(n, 1.0, 1.0, 9));
            unchanged("patch, shading", x -> x.patch(n, 0, 1.0, 1.0));
            unchanged("extend, shading", x -> x.extend(n, false, true));
            unchanged("pieces, shading", x -> x.pieces(n));
            unchanged("point, shading", x -> x.point(n, 0, 0, 0));
        }
        unchanged("sample, kind", x -> x.sample(1, 1, 9));
        unchanged("sample, index", x -> x.sample(4, 3, 9));
        unchanged("sample, index below", x -> x.sample(4, -1, 9));
        unchanged("value, t", x -> x.value(1, Made.NONE));
        unchanged("value, t too large", x -> x.value(1, Made.OVER));
        unchanged("patch, point", x -> x.patch(6, 12, 99.0, 99.0));
        unchanged("patch, point below", x -> x.patch(6, -1, 99.0, 99.0));
        unchanged("point, band", x -> x.point(6, 0, 0, 3));
        unchanged("point, x", x -> x.point(6, 10001, 0, 0));
        unchanged("point, y", x -> x.point(6, 0, -10001, 0));
    }

    private static void firstException() {
        ShadeRows x = Made.oneOfEachKind();
        x.function(0, 2.0, 0.0, 1.0, 0.0);
        Check.noSuch("sample: no function, no index", () -> x.sample(9, 2, 0));
        Check.noSuch("sample: another kind, no index", () -> x.sample(1, 2, 0));
        Check.noSuch("sample: another kind, index below", () -> x.sample(1, -1, 0));
        Check.badIndex("sample: no index alone", () -> x.sample(4, 2, 0));
        Check.noSuch("value: no function, t not good", () -> x.value(9, Made.NONE));
        Check.badArgument("value: t not good alone", () -> x.value(4, Made.NONE));
        Check.noSuch("vertex: no shading, place not good", () -> x.vertex(9, Made.NONE, 0.0, 0));
        Check.noSuch("patch: no shading, no point", () -> x.patch(9, 12, 0.0, 0.0));
        Check.noSuch("patch: all three", () -> x.patch(9, -1, Made.NONE, Made.NONE));
        Check.badIndex("patch: no point, place not good", () -> x.patch(6, 12, Made.NONE, 0.0));
        Check.noSuch("point: no shading, no band", () -> x.point(9, 0, 0, 3));
        Check.noSuch("point: no shading, too far", () -> x.point(9, 10001, 0, 0));
        Check.noSuch("point: all three", () -> x.point(9, 10001, -10001, -1));
        Check.badIndex("point: no band, too far", () -> x.point(1, 10001, 0, 3));
        Check.badIndex("point: no band, y too far", () -> x.point(1, 0, -10001, -1));
        Check.badArgument("point: too far alone", () -> x.point(1, 10001, 0, 0));
    }

    private static void noSuchAt(ShadeRows x, int n) {
        Check.noSuch("sample " + n, () -> x.sample(n, 0, 0));
        Check.noSuch("value " + n, () -> x.value(n, 0.0));
        Check.noSuch("vertex " + n, () -> x.vertex(n, 0.0, 0.0, 0));
        Check.noSuch("patch " + n, () -> x.patch(n, 0, 0.0, 0.0));
        Check.noSuch("extend " + n, () -> x.extend(n, true, true));
        Check.noSuch("pieces " + n, () -> x.pieces(n));
        Check.noSuch("point " + n, () -> x.point(n, 0, 0, 0));
    }

    private static void noSuch() {
        ShadeRows x = new ShadeRows();
        for (int there = 0; there <= 24; there++) {
            for (int n : Made.NOWHERE) {
                noSuchAt(x, n);
            }
            noSuchAt(x, there + 1);
            for (int n = 1; n <= there; n++) {
                x.value(n, 0.0);
                x.pieces(n);
            }
            if (there < 24) {
                x.function(0, 2.0, 0.0, 1.0, 0.0);
                Made.free(x);
            }
        }
        ShadeRows functions = Made.rising();
        Check.noSuch("a function is no shading", () -> functions.pieces(1));
        ShadeRows shadings = new ShadeRows();
        Made.free(shadings);
        Check.noSuch("a shading is no function", () -> shadings.value(1, 0.0));
    }

    private static void newObject() {
        ShadeRows x = new ShadeRows();
        Check.same("no steps: t is left", x.function(3, 0.0, 0.0, 0.0, 0.0), 1);
        Check.same("t", x.value(1, 3.25), 3.25);
        ShadeRows y = new ShadeRows();
        for (int n = 0; n <= 25; n++) {
            noSuchAt(y, n);
        }
        Check.same("no error", y.error(), 0);
        Check.same("first step", y.text(5, 0.0), 1);
        Check.same("first shading", Made.free(y), 1);
        Check.same("no functions for a plane", Made.plane(y, 0.0, 0.0, 0.0), 0);
        Check.same("nothing to stitch", y.function(2, 1.0, 1.0, 0.5, 0.0), 0);
        Check.same("first function", Made.constant(y, 1.0), 1);
    }

    private static void text() {
        ShadeRows x = new ShadeRows();
        int there = 0;
        for (int turn = 0; turn < 24; turn++) {
            for (int op : new int[] {-1, 14, 15, 256, Integer.MIN_VALUE, Integer.MAX_VALUE}) {
                Check.same("op " + op, x.text(op, 0.0), 0);
            }
            for (double v : Made.BAD) {
                Check.same("v " + v, x.text(turn % 14, v), 0);
            }
            there++;
            Check.same("step " + there, x.text(turn % 2 == 0 ? 7 : 9, 0.0), there);
        }
        for (int op = 0; op <= 13; op++) {
            Check.same("no room", x.text(op, 0.0), 0);
        }
        Check.same("the 24 are right, and no other came", x.function(3, 0.0, 0.0, 0.0, 0.0), 1);
        Check.same("t", x.value(1, 2.5), 2.5);
        Check.same("room again", x.text(0, 0.0), 1);
        for (int op = 0; op <= 13; op++) {
            Check.same("op " + op, new ShadeRows().text(op, 0.0), 1);
        }
    }

    private static void function() {
        ShadeRows x = new ShadeRows();
        for (int kind : new int[] {-1, 4, 5, 256, Integer.MIN_VALUE, Integer.MAX_VALUE}) {
            Check.same("kind " + kind, x.function(kind, 2.0, 0.0, 1.0, 0.0), 0);
        }
        Check.same("one sample", x.function(0, 1.0, 0.0, 1.0, 0.0), 0);
        Check.same("power 13", x.function(1, 0.0, 1.0, 13.0, 0.0), 0);
        Check.same("none to stitch", x.function(2, 1.0, 1.0, 0.5, 0.0), 0);
        Check.same("two left", Made.text(x, 7), 0);
        Check.noSuch("refused ones have no number", () -> x.value(1, 0.0));
        Check.same("the first number is 1", Made.constant(x, 1.0), 1);
        Check.same("refused once more", x.function(0, 17.0, 0.0, 1.0, 0.0), 0);
        Check.same("the next one is 2", Made.constant(x, 2.0), 2);
        for (int n = 3; n <= 24; n++) {
            Check.same("function " + n, Made.constant(x, n), n);
        }
        Check.same("function 25", Made.constant(x, 25.0), 0);
        for (int n = 1; n <= 24; n++) {
            Check.same("it is still " + n, x.value(n, 0.0), n);
        }
    }

    private static void otherNumbers() {
        for (double odd : Made.BAD) {
            ShadeRows x = new ShadeRows();
            Check.same("sampled", x.function(0, 2.0, 0.0, 1.0, odd), 1);
            Check.same("power", x.function(1, 0.0, 1.0, 1.0, odd), 2);
            Check.same("stitched", x.function(2, 1.0, 2.0, 0.5, odd), 3);
            Check.same("text", x.function(3, odd, odd, odd, odd), 4);
            for (int i = 0; i < 3; i++) {
                double a = i == 0 ? odd : 2.0;
                double b = i == 1 ? odd : 1.0;
                double c = i == 2 ? odd : 3.0;
                Check.same("sampled, number " + i, x.function(0, a, b, c, 0.0), 0);
                Check.same("power, number " + i, x.function(1, a, b, c, 0.0), 0);
                Check.same("stitched, number " + i, x.function(2, a, b, i == 2 ? odd : 0.5, 0.0), 0);
            }
            Check.same("none came", Made.itself(x), 5);
        }
    }

    private static void stepsGone() {
        ShadeRows x = new ShadeRows();
        Check.same("right", Made.text(x, 7, 3), 1);
        Check.same("gone", x.text(7, 0.0), 1);
        Check.same("wrong", x.function(3, 0.0, 0.0, 0.0, 0.0), 0);
        Check.same("gone, too", x.text(5, 0.0), 1);
        int there = 1;
        for (int kind : new int[] {-1, 0, 1, 2, 4}) {
            x.function(kind, 2.0, 1.0, kind == 2 ? 0.5 : 2.0, 0.0);
            there++;
            Check.same("kind " + kind + " lets them", x.text(5, 0.0), there);
        }
        Check.same("all six", x.function(3, 0.0, 0.0, 0.0, 0.0), 5);
        Check.same("an even number of turns", x.value(5, 2.0), 2.0);
        for (int n = 6; n <= 24; n++) {
            Made.constant(x, 1.0);
        }
        Check.same("no room", Made.text(x, 5, 5), 0);
        Check.same("gone as well", x.text(5, 0.0), 1);
        Check.same("the first text has its own", x.value(1, 3.0), 9.0);
    }

    private static void sample() {
        ShadeRows x = Made.rising();
        x.function(0, 5.0, 0.0, 4.0, 0.0);
        x.function(2, 4.0, 4.0, 0.5, 0.0);
        Made.itself(x);
        Check.same("at first", x.sample(4, 0, 255), 0);
        Check.same("what it was", x.sample(4, 0, 256 + 7), 255);
        Check.same("its lowest eight bits", x.sample(4, 0, -1), 7);
        Check.same("of -1", x.sample(4, 0, -256), 255);
        Check.same("of -256", x.sample(4, 0, 128), 0);
        Check.same("not below 0", x.sample(4, 0, 0), 128);
        Check.same("the last one", x.sample(4, 4, 51), 0);
        Check.same("its neighbour stays", x.sample(4, 3, 0), 0);
        Check.same("seen at once", x.value(4, 4.0), 0.2);
        for (int i : new int[] {5, 6, 15, 16, 255, 256, -1, -5, Integer.MAX_VALUE, Integer.MIN_VALUE}) {
            Check.badIndex("sample " + i, () -> x.sample(4, i, 0));
        }
        for (int n : new int[] {1, 2, 3, 5, 6, 7}) {
            Check.noSuch("of another kind, or none", () -> x.sample(n, 0, 0));
        }
    }

    private static void value() {
        ShadeRows x = Made.rising();
        Made.itself(x);
        Check.same("the most", x.value(4, Made.MOST), Made.MOST);
        Check.same("the least", x.value(4, -Made.MOST), -Made.MOST);
        Check.same("0.0", x.value(4, 0.0), 0.0);
        for (double t : Made.BAD) {
            for (int n = 1; n <= 4; n++) {
                int f = n;
                Check.badArgument("t " + t, () -> x.value(f, t));
            }
        }
        for (int n : Made.NOWHERE) {
            Check.noSuch("function " + n, () -> x.value(n, 0.0));
        }
        Check.noSuch("function 5", () -> x.value(5, 0.0));
    }

    private static void error() {
        ShadeRows x = new ShadeRows();
        Check.same("at first", x.error(), 0);
        Check.noSuch("no value", () -> x.value(1, 0.0));
        Check.same("still", x.error(), 0);
        x.function(1, 0.0, 1.0, 0.0, 0.0);
        Made.text(x, 13);
        Made.itself(x);
        Made.plane(x, 0.0, 0.0, -1.0);
        Check.same("a point's functions", x.point(1, 0, 0, 0), 255);
        Check.same("another point's", x.point(1, 0, 0, 1), 0);
        Check.same("are no value()", x.error(), 0);
        x.value(1, 0.0);
        Check.same("2", x.error(), 2);
        Check.same("2, asked again", x.error(), 2);
        Check.same("a point has no say", x.point(1, 0, 0, 1), 0);
        Check.same("2 still", x.error(), 2);
        x.value(2, -1.0);
        Check.same("the latest", x.error(), 4);
        Check.badArgument("no value", () -> x.value(3, Made.NONE));
        Check.same("4 still", x.error(), 4);
        x.value(3, 0.0);
        Check.same("none", x.error(), 0);
    }

    private static void shading() {
        double[][] right = {{}, {1, 2, 3, 0, 0, 0}, {1, 2, 3, 4, 0, 0}, {1, 2, 3, 4, 5, 6},
            {0, 0, 0, 0, 0, 0}, {2, 0, 0, 0, 0, 0}, {1, 0, 0, 0, 0, 0}};
        int[] used = {0, 3, 4, 6, 0, 1, 1};
        for (int kind = 1; kind <= 6; kind++) {
            for (int functions = 0; functions <= 3; functions++) {
                ShadeRows x = new ShadeRows();
                for (int i = 0; i < functions; i++) {
                    Made.constant(x, 0.5);
                }
                int due = kind > 3 || functions == 3 ? 1 : 0;
                Check.same("kind " + kind + ", functions " + functions, shade(x, kind, right[kind]), due);
            }
            for (int which = 0; which < 6; which++) {
                for (double odd : Made.BAD) {
                    double[] n = right[kind].clone();
                    n[which] = odd;
                    int due = which < used[kind] ? 0 : 1;
                    Check.same("kind " + kind + ", number " + which, shade(Made.rising(), kind, n), due);
                }
            }
            ShadeRows x = Made.rising();
            for (int i = 1; i <= 24; i++) {
                Check.same("refused", shade(x, 0, right[kind]), 0);
                Check.same("shading " + i, shade(x, kind, right[kind]), i);
            }
            for (int more = 1; more <= 6; more++) {
                Check.same("shading 25", shade(x, more, right[more]), 0);
            }
            Check.noSuch("none came", () -> x.pieces(25));
        }
        for (int kind : new int[] {0, -1, 7, 8, 256, Integer.MIN_VALUE, Integer.MAX_VALUE}) {
            Check.same("kind " + kind, shade(Made.rising(), kind, right[2]), 0);
        }
    }

    private static void twentyFourShadings() {
        ShadeRows x = Made.rising();
        for (int n = 1; n <= 24; n++) {
            int next = n;
            Check.noSuch("not yet " + n, () -> x.pieces(next));
            Check.same("shading " + n, Made.plane(x, 0.0, 0.0, n / 255.0), n);
        }
        Check.same("shading 25", Made.plane(x, 0.0, 0.0, 1.0), 0);
        Check.same("shading 26", Made.free(x), 0);
        for (int n = 1; n <= 24; n++) {
            Check.same("it is still " + n, x.point(n, 0, 0, 0), n);
        }
    }

    private static int shade(ShadeRows x, int kind, double[] n) {
        return x.shading(kind, n[0], n[1], n[2], n[3], n[4], n[5]);
    }

    private static void vertex() {
        for (int kind = 4; kind <= 6; kind++) {
            ShadeRows x = Made.oneOfEachKind();
            int s = kind;
            for (int i = 1; i <= 60; i++) {
                for (double odd : Made.BAD) {
                    Check.same("x " + odd, x.vertex(s, odd, 0.0, 0), 0);
                    Check.same("y " + odd, x.vertex(s, 0.0, odd, 0), 0);
                }
                Check.same("vertex " + i, x.vertex(s, i, -i, i), i);
            }
            Check.same("vertex 61", x.vertex(s, 0.0, 0.0, 0), 0);
            Check.same("still none", x.vertex(s, 1.0, 1.0, 1), 0);
            for (int other = 1; other <= 3; other++) {
                Check.same("kind " + other, x.vertex(other, 0.0, 0.0, 0), 0);
            }
        }
        int[] colours = {0, 1, 0xff, 0x100, 0xff00, 0x10000, 0xff0000, 0xffffff, 0x1000000,
            0x7fffffff, -1, 0xff000000, Integer.MIN_VALUE, 0x80402010};
        for (int colour : colours) {
            ShadeRows x = new ShadeRows();
            Made.free(x);
            Made.triangle(x, 1, colour, 0.0, 0.0, 9.0, 0.0, 0.0, 9.0);
            Made.patch(x, 1.0);
            Made.square(x, 2, 0.0, 0.0, 9.0);
            Made.triangle(x, 2, colour, 0.0, 0.0, 0.0, 0.0, 0.0, 0.0, 0.0, 0.0);
            for (int s = 1; s <= 2; s++) {
                Check.same("lowest byte of " + colour, x.point(s, 1, 1, 0), colour & 255);
                Check.same("second byte of " + colour, x.point(s, 1, 1, 1), colour >> 8 & 255);
                Check.same("third byte of " + colour, x.point(s, 1, 1, 2), colour >> 16 & 255);
            }
        }
        for (int n : Made.NOWHERE) {
            Check.noSuch("vertex of " + n, () -> Made.oneOfEachKind().vertex(n, 0.0, 0.0, 0));
        }
    }

    private static void patch() {
        for (int kind = 1; kind <= 6; kind++) {
            ShadeRows x = Made.oneOfEachKind();
            int s = kind;
            int due = kind == 6 ? 1 : 0;
            for (int i = 0; i <= 11; i++) {
                Check.same("point " + i + " of kind " + s, x.patch(s, i, 1.0, 2.0), due);
                for (double odd : Made.BAD) {
                    Check.same("x " + odd, x.patch(s, i, odd, 0.0), 0);
                    Check.same("y " + odd, x.patch(s, i, 0.0, odd), 0);
                }
            }
            for (int i : new int[] {12, 13, -1, Integer.MAX_VALUE, Integer.MIN_VALUE}) {
                Check.badIndex("point " + i, () -> x.patch(s, i, 0.0, 0.0));
            }
        }
        for (int i : new int[] {0, 3, 6, 9}) {
            ShadeRows x = new ShadeRows();
            Made.patch(x, 1.0);
            Made.square(x, 1, 0.0, 0.0, 9.0);
            Made.triangle(x, 1, 9, 0.0, 0.0, 0.0, 0.0, 0.0, 0.0, 0.0, 0.0);
            int across = i == 3 || i == 6 ? 8 : 0;
            int down = i == 6 || i == 9 ? 8 : 0;
            Check.same("painted", x.point(1, across, down, 0), 9);
            x.patch(1, i, Made.NONE, 4.5);
            x.patch(1, i, 4.5, Made.OVER);
            Check.same("a refused place changes nothing", x.point(1, across, down, 0), 9);
            x.patch(1, i, 4.5, 4.5);
            Check.same("another one does", x.point(1, across, down, 0), -1);
        }
    }

    private static void extend() {
        ShadeRows x = Made.oneOfEachKind();
        for (int kind = 1; kind <= 6; kind++) {
            int due = kind == 2 || kind == 3 ? 1 : 0;
            for (int turn = 0; turn < 4; turn++) {
                boolean begins = turn % 2 == 1;
                boolean ends = turn >= 2;
                Check.same("kind " + kind, x.extend(kind, begins, ends), due);
                for (int s = 2; s <= 3 && s == kind; s++) {
                    Check.same("before", x.point(s, -9, 0, 0), begins ? 0 : -1);
                    Check.same("behind", x.point(s, 19, 0, 0), ends ? 255 : -1);
                }
            }
        }
        ShadeRows y = Made.oneOfEachKind();
        for (int s = 2; s <= 3; s++) {
            Check.same("at first not before", y.point(s, -9, 0, 0), -1);
            Check.same("at first not behind", y.point(s, 19, 0, 0), -1);
        }
        y.extend(2, true, true);
        Check.same("the other one stays", y.point(3, -9, 0, 0), -1);
        Made.line(y, 0.0, 0.0, 8.0, 0.0);
        Check.same("a later one is not extended", y.point(7, -9, 0, 0), -1);
        for (int n : Made.NOWHERE) {
            Check.noSuch("extend of " + n, () -> y.extend(n, true, true));
        }
    }

    private static void pieces() {
        ShadeRows x = Made.oneOfEachKind();
        for (int s = 1; s <= 6; s++) {
            Check.same("without vertices", x.pieces(s), 0);
            for (int i = 0; i < 60; i++) {
                x.vertex(s, i, i, 0);
            }
        }
        int[] due = {0, 0, 0, 0, 20, 58, 8};
        for (int s = 1; s <= 6; s++) {
            Check.same("kind " + s + " of sixty", x.pieces(s), due[s]);
            x.vertex(s, 0.0, 0.0, 0);
            Check.same("kind " + s + " of no more", x.pieces(s), due[s]);
        }
        for (int n : Made.NOWHERE) {
            Check.noSuch("pieces of " + n, () -> x.pieces(n));
        }
    }

    private static void point() {
        ShadeRows x = Made.oneOfEachKind();
        for (int s = 1; s <= 6; s++) {
            int n = s;
            for (int band : new int[] {-1, 3, 4, 255, 256, Integer.MIN_VALUE, Integer.MAX_VALUE}) {
                Check.badIndex("band " + band, () -> x.point(n, 0, 0, band));
            }
            for (int far : new int[] {10001, -10001, Integer.MIN_VALUE, Integer.MAX_VALUE}) {
                Check.badArgument("x " + far, () -> x.point(n, far, 0, 0));
                Check.badArgument("y " + far, () -> x.point(n, 0, far, 0));
            }
            for (int band = 0; band < 3; band++) {
                int none = s == 1 ? 255 : -1;
                Check.same("most", x.point(s, 10000, 10000, band), none);
                Check.same("most and least", x.point(s, 10000, -10000, band), none);
                Check.same("least", x.point(s, -10000, 10000, band), s == 1 ? 0 : -1);
            }
        }
        Check.same("a colour that is 0 is painted", x.point(1, -5, 0, 0), 0);
        Check.same("line", x.point(2, 3, 9, 2), 112);
        Check.same("before it", x.point(2, -1, 9, 2), -1);
    }

    private static void manyCalls() {
        ShadeRows x = Made.rising();
        int calls = 3;
        for (int i = 1; i <= 24; i++) {
            Check.same("patch " + i, Made.patch(x, 6.0), i);
            calls++;
        }
        for (int i = 1; i <= 60; i++) {
            Check.same("vertex " + i, x.vertex(24, 0.0, 0.0, 7), i);
            calls++;
        }
        Made.square(x, 24, 0.0, 0.0, 12.0);
        calls += 12;
        while (calls < 511) {
            Check.same("call " + calls, x.point(24, calls % 12, 5, 0), 7);
            calls++;
        }
        Check.same("call 512", x.pieces(24), 72);
    }
}
