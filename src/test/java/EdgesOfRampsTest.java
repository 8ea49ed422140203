/** The edges in what the document says of planes, lines and circles, and what is painted. */
public final class EdgesOfRampsTest {
    public static void main(String[] args) {
        Sentence.holds("1 PLANE: t is a * x + b * y + c.", EdgesOfRampsTest::planes);
        Sentence.holds("2 LINE from (a, b) to (c, d), unlike", EdgesOfRampsTest::unlike);
        Sentence.holds("t below 0.0 is PAINTED (as 0.0), if it is extended at its begin, above 1.0"
                + " (as 1.0), if at its end; 0.0 .. 1.0 always; others not", EdgesOfRampsTest::lines);
        Sentence.holds("(nor what is no number)", EdgesOfRampsTest::noNumber);
        Sentence.holds("with radii c and f, not below 0.0, not the same", EdgesOfRampsTest::radii);
        Sentence.holds("If A is 0.0: t is C / (2.0 * B), none if B is 0.0.",
                EdgesOfRampsTest::withoutA);
        Sentence.holds("Else, with D = B * B - A * C, none if it is below 0.0",
                EdgesOfRampsTest::belowZero);
        Sentence.holds("the greater one, if it counts, else the other one, if it counts.",
                EdgesOfRampsTest::greaterOne);
        Sentence.holds("t counts, if c + t * dr is 0.0 or more, and t is painted (next).",
                EdgesOfRampsTest::counts);
        Check.end("EdgesOfRampsTest");
    }

    private static int circles(ShadeRows x, double... n) {
        return x.shading(3, n[0], n[1], n[2], n[3], n[4], n[5]);
    }

    /** What the three bands tell: 1, 2 or 3 for the one that found its t, 0 for none, -1. */
    private static int found(ShadeRows x, int shading, int px, int py) {
        int which = 0;
        for (int band = 0; band < 3; band++) {
            int tone = x.point(shading, px, py, band);
            if (tone < 0) {
                return tone;
            }
            which = tone == 255 ? band + 1 : which;
        }
        return which;
    }

    private static void planes() {
        ShadeRows x = new ShadeRows();
        // t goes far beyond what is good, to 20002 and to -20000 times a million.
        Made.text(x, 0, 1.0e6, 4, 0, 20002.0, 2, 0, 0.0, 0, 1.0, 11);
        Made.text(x, 0, 1.0e6, 4, 0, -20000.0, 2, 0, 0.0, 0, 1.0, 11);
        Made.constant(x, 0.25);
        Made.plane(x, Made.MOST, Made.MOST, Made.MOST);
        Check.same("as far as may be", x.point(1, 10000, 10000, 0), 255);
        Check.same("less far", x.point(1, 9999, 10000, 0), 0);
        Made.plane(x, Made.MOST, Made.MOST, -Made.MOST);
        Check.same("as far below", x.point(2, -10000, -10000, 1), 255);
        Check.same("always painted", x.point(2, -10000, -10000, 2), 64);
        Check.same("it is not extended", x.extend(1, true, true), 0);
        ShadeRows y = Made.lookingFor(-3.0, 0.0, 7.5);
        Made.plane(y, 0.0, 0.0, -3.0);
        Made.plane(y, 0.0, 0.0, 0.0);
        Made.plane(y, 2.0, 4.0, 0.5);
        Check.same("c alone", found(y, 1, 77, -9), 1);
        Check.same("all are 0.0", found(y, 2, 77, -9), 2);
        Check.same("below 0.0 and above 1.0 are as they are", found(y, 3, 0, 1), 3);
    }

    private static void unlike() {
        ShadeRows x = Made.rising();
        Check.same("alike", Made.line(x, 3.0, 4.0, 3.0, 4.0), 0);
        Check.same("alike, at the edge", Made.line(x, Made.MOST, -Made.MOST, Made.MOST, -Made.MOST), 0);
        Check.same("alike, -0.0", Made.line(x, 0.0, -0.0, -0.0, 0.0), 0);
        Check.same("unlike in x by a hair", Made.line(x, 3.0, 4.0, Math.nextUp(3.0), 4.0), 1);
        Check.same("unlike in y by a hair", Made.line(x, 3.0, 4.0, 3.0, Math.nextDown(4.0)), 2);
        Check.same("x and y exchanged", Made.line(x, 3.0, 4.0, 4.0, 3.0), 3);
        Check.same("from edge to edge", Made.line(x, -Made.MOST, -Made.MOST, Made.MOST, Made.MOST), 4);
        Check.same("its middle", x.point(4, 0, 0, 0), 128);
    }

    /** Band 0 finds t 0.0, band 1 t 1.0, band 2 t 0.5. */
    private static void lines() {
        ShadeRows x = Made.lookingFor(0.0, 1.0, 0.5);
        Made.line(x, 0.5, 0.5, 4.5, 0.5);
        Made.line(x, Math.nextUp(0.5), 0.5, 4.5, 0.5);
        Made.line(x, 0.5, 0.5, Math.nextDown(4.5), 0.5);
        for (int turn = 0; turn < 4; turn++) {
            boolean begins = turn % 2 == 1;
            boolean ends = turn >= 2;
            String how = ", begins " + begins + ", ends " + ends;
            for (int s = 1; s <= 3 && turn > 0; s++) {
                Check.same("extend", x.extend(s, begins, ends), 1);
            }
            Check.same("0.0" + how, found(x, 1, 0, 5), 1);
            Check.same("0.5" + how, found(x, 1, 2, 5), 3);
            Check.same("1.0" + how, found(x, 1, 4, 5), 2);
            Check.same("below" + how, found(x, 1, -1, 5), begins ? 1 : -1);
            Check.same("far below" + how, found(x, 1, -10000, 5), begins ? 1 : -1);
            Check.same("just below" + how, found(x, 2, 0, 5), begins ? 1 : -1);
            Check.same("above" + how, found(x, 1, 5, 5), ends ? 2 : -1);
            Check.same("far above" + how, found(x, 1, 10000, 5), ends ? 2 : -1);
            Check.same("just above" + how, found(x, 3, 4, 5), ends ? 2 : -1);
        }
    }

    /** The squares of so short a line are 0.0, and so is the divisor. */
    private static void noNumber() {
        ShadeRows x = Made.lookingFor(0.0, 1.0, 0.5);
        Made.line(x, 0.5, 0.5, 0.5, Math.nextUp(0.5));
        Made.line(x, 0.0, 0.0, Double.MIN_VALUE, -Double.MIN_VALUE);
        Made.line(x, 0.0, 0.0, 1.0e-200, 0.0);
        for (int s = 1; s <= 3; s++) {
            x.extend(s, true, true);
        }
        Check.same("short, but not so short", found(x, 1, 3, 0), 1);
        Check.same("0.0 / 0.0", found(x, 2, 3, 3), -1);
        Check.same("0.0 / 0.0, behind 0", found(x, 2, -4, -4), -1);
        Check.same("no number is not above", found(x, 2, 3, 2), 2);
        Check.same("without an end, above", found(x, 3, 3, 0), 2);
        Check.same("without an end, below", found(x, 3, -3, 0), 1);
        x.extend(3, false, false);
        Check.same("without an end, above, not extended", found(x, 3, 3, 0), -1);
        Check.same("without an end, below, not extended", found(x, 3, -3, 0), -1);
        // Circles so near that A is 0.0 and t has no end: its radius is no number.
        circles(x, 0.0, 0.0, 1.0, Double.MIN_VALUE, 0.0, 1.0);
        x.extend(4, true, true);
        Check.same("a radius that is no number", found(x, 4, 9, 0), -1);
        Check.same("a radius that is no number, below", found(x, 4, -9, 0), -1);
    }

    private static void radii() {
        ShadeRows x = Made.rising();
        double[] below = {-Double.MIN_VALUE, -1.0, -Made.MOST};
        for (double radius : below) {
            Check.same("c " + radius, circles(x, 0.0, 0.0, radius, 5.0, 0.0, 1.0), 0);
            Check.same("f " + radius, circles(x, 0.0, 0.0, 1.0, 5.0, 0.0, radius), 0);
        }
        Check.same("the same", circles(x, 1.0, 2.0, 3.0, 1.0, 2.0, 3.0), 0);
        Check.same("the same, 0.0 and -0.0", circles(x, 0.0, -0.0, 0.0, -0.0, 0.0, -0.0), 0);
        Check.same("both radii 0.0", circles(x, 0.0, 0.0, 0.0, 1.0, 0.0, -0.0), 1);
        Check.same("another radius by a hair", circles(x, 1.0, 2.0, 3.0, 1.0, 2.0, Math.nextUp(3.0)), 2);
        Check.same("another x by a hair", circles(x, 1.0, 2.0, 3.0, Math.nextUp(1.0), 2.0, 3.0), 3);
        Check.same("another y by a hair", circles(x, 1.0, 2.0, 3.0, 1.0, Math.nextDown(2.0), 3.0), 4);
        Check.same("the same radii, elsewhere", circles(x, 1.0, 2.0, 3.0, 4.0, 5.0, 3.0), 5);
        Check.same("the same middle", circles(x, 1.0, 2.0, 0.0, 1.0, 2.0, Made.MOST), 6);
    }

    private static void withoutA() {
        ShadeRows x = Made.lookingFor(0.325, 1.0, 0.25);
        // x 2.5, y 0.5: A is 0.0, B 10.0, C 6.5
        circles(x, 0.0, 0.0, 0.0, 4.0, 0.0, 4.0);
        Check.same("t is C / (2.0 * B)", found(x, 1, 2, 0), 1);
        Check.same("above 1.0, not extended", found(x, 1, 9, 0), -1);
        // A hair aside A is 7.1e-15: t are 2.8e15, and 0.25 by what rounding leaves.
        circles(x, 0.0, 0.0, 0.0, Math.nextUp(4.0), 0.0, 4.0);
        Check.same("A is not 0.0", found(x, 2, 2, 0), 3);
        // All circles touch the line x 0.5: on it B is 0.0.
        circles(x, 0.5, 0.0, 0.0, 4.5, 0.0, 4.0);
        for (int y = -3; y <= 3; y++) {
            Check.same("B is 0.0", found(x, 3, 0, y), -1);
        }
        for (int s = 1; s <= 3; s++) {
            x.extend(s, true, true);
        }
        for (int y = -3; y <= 3; y++) {
            Check.same("B is 0.0, extended", found(x, 3, 0, y), -1);
        }
        Check.same("above 1.0, extended", found(x, 1, 9, 0), 2);
        Check.same("a greater one, extended", found(x, 2, 2, 0), 2);
    }

    /** From x 0.0 to 1.0 with one radius: D is the radius' square less that of y. */
    private static void belowZero() {
        ShadeRows x = Made.lookingFor(0.5 + 0x1p-40, 0.0, 1.0);
        circles(x, 0.0, 0.0, 0.5, 1.0, 0.0, 0.5);
        circles(x, 0.0, 0.0, 0.25, 1.0, 0.0, 0.25);
        circles(x, 0.0, 0.0, Math.nextDown(0.5), 1.0, 0.0, Math.nextDown(0.5));
        for (int s = 1; s <= 3; s++) {
            x.extend(s, true, true);
        }
        Check.same("D is 0.0, and its root is not", found(x, 1, 0, 0), 1);
        Check.same("D is 0.0, on the other side", found(x, 1, 0, -1), 1);
        Check.same("D is -0.1875", found(x, 2, 0, 0), -1);
        Check.same("D is a hair below 0.0", found(x, 3, 0, 0), -1);
        Check.same("D is far below 0.0", found(x, 1, 0, 9), -1);
    }

    /** Around (0.0, 0.5) and (8.0, 0.5) with radius 3.0: t are (x + 3) / 8 and (x - 3) / 8. */
    private static void greaterOne() {
        ShadeRows x = Made.lookingFor(0.9375, 0.3125, 1.0);
        circles(x, 0.0, 0.5, 3.0, 8.0, 0.5, 3.0);
        Check.same("the greater one", found(x, 1, 4, 0), 1);
        Check.same("the other one", found(x, 1, 5, 0), 2);
        Check.same("the other one alone", found(x, 1, 10, 0), 1);
        Check.same("neither, above", found(x, 1, 11, 0), -1);
        Check.same("neither, below", found(x, 1, -4, 0), -1);
        x.extend(1, false, true);
        Check.same("the greater one, above 1.0", found(x, 1, 5, 0), 3);
        x.extend(1, true, false);
        Check.same("the other one again", found(x, 1, 5, 0), 2);
        // Half a point aside t are (x + 2.5) / 8 and (x - 3.5) / 8: just 0.0 and just 1.0.
        ShadeRows z = Made.lookingFor(0.0, 1.0, 0.25);
        circles(z, 0.5, 0.5, 3.0, 8.5, 0.5, 3.0);
        Check.same("the greater one is 0.0", found(z, 1, -3, 0), 1);
        Check.same("the greater one is 1.0", found(z, 1, 5, 0), 2);
        Check.same("the other one is 1.0", found(z, 1, 11, 0), 2);
        z.extend(1, true, true);
        Check.same("the greater one is 0.0, extended", found(z, 1, -3, 0), 1);
        Check.same("both are beyond, the greater one", found(z, 1, 12, 0), 2);
        // A is below 0.0, so that the one with + is the lesser: t are -1.875 and 0.5.
        ShadeRows y = Made.lookingFor(0.0, 0.5, 1.0);
        circles(y, 0.0, 0.0, 1.0, 1.0, 0.0, 4.0);
        y.extend(1, true, true);
        Check.same("the greater one, A below 0.0", found(y, 1, 2, 1), 2);
        // Turned: t are 0.5 and 2.875, where the radius would be below 0.0.
        circles(y, 1.0, 0.0, 4.0, 0.0, 0.0, 1.0);
        y.extend(2, true, true);
        Check.same("the other one, A below 0.0", found(y, 2, 2, 1), 2);
    }

    private static void counts() {
        ShadeRows x = Made.lookingFor(0.0, 1.0, 0.5);
        // To a tip at (1000.5, 0.5): there both t are 1.0, with a radius of 0.0.
        circles(x, 0.5, 0.5, 3.0, 1000.5, 0.5, 0.0);
        Check.same("a radius of 0.0", found(x, 1, 1000, 0), 2);
        x.extend(1, true, true);
        Check.same("a radius of 0.0, extended", found(x, 1, 1000, 0), 2);
        Check.same("behind the tip", found(x, 1, 1001, 0), -1);
        // Around one middle from 0.0 to 1.0: at a distance of 2.0 t are 2.0 and -2.0.
        circles(x, 0.5, 0.5, 0.0, 0.5, 0.5, 1.0);
        Check.same("above 1.0", found(x, 2, 2, 0), -1);
        x.extend(2, true, false);
        Check.same("a radius below 0.0 before the begin", found(x, 2, 2, 0), -1);
        x.extend(2, false, true);
        Check.same("behind the end", found(x, 2, 2, 0), 2);
        // Turned: t are 3.0, where the radius is -2.0, and -1.0.
        circles(x, 0.5, 0.5, 1.0, 0.5, 0.5, 0.0);
        x.extend(3, false, true);
        Check.same("a radius below 0.0 behind the end", found(x, 3, 2, 0), -1);
        x.extend(3, true, true);
        Check.same("before the begin", found(x, 3, 2, 0), 1);
        // A is 0.0: left of the touching point t is below 0.0, and so is the radius.
        circles(x, 0.0, 0.0, 0.0, 4.0, 0.0, 4.0);
        x.extend(4, true, true);
        Check.same("A is 0.0, a radius below 0.0", found(x, 4, -3, 0), -1);
        // The radius is 0.0 at the begin, whose point is the first one's middle.
        circles(x, 0.5, 0.5, 0.0, 8.5, 0.5, 0.0);
        Check.same("both radii 0.0", found(x, 5, 4, 0), 0);
        Check.same("both radii 0.0, aside", found(x, 5, 4, 1), -1);
        // The radius of t -1.0 is minus the least number, that of t -0.3 is rounded to 0.0.
        circles(x, 0.5, 0.5, 0.0, 8.5, 0.5, Double.MIN_VALUE);
        x.extend(6, true, false);
        Check.same("a radius just below 0.0", found(x, 6, -8, 0), -1);
        Check.same("a radius that is rounded to 0.0", found(x, 6, -2, 0), 1);
    }
}
