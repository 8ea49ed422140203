import java.util.NoSuchElementException;

/**
 * Colours that run into each other: functions of one number, and shadings over a plane, along a
 * line, from circle to circle, over triangles and over bent patches, as ../shared/DOC.md tells
 * them. Every sum stands in the document's own order, since a double's last bit hangs on it.
 */
public final class ShadeRows {
    private static final int MOST_FUNCTIONS = 24;
    private static final int MOST_STEPS = 24;
    private static final int MOST_STACKED = 8;
    private static final int MOST_SAMPLES = 16;
    private static final int MOST_SHADINGS = 24;
    private static final int MOST_VERTICES = 60;
    private static final int PATCH_POINTS = 12;
    private static final int BANDS = 3;
    private static final int FARTHEST = 10000;
    private static final int UNPAINTED = -1;

    private static final int SAMPLED = 0;
    private static final int POWER = 1;
    private static final int STITCHED = 2;
    private static final int TEXT = 3;

    private static final int PLANE = 1;
    private static final int LINE = 2;
    private static final int CIRCLES = 3;
    private static final int FREE = 4;
    private static final int LATTICE = 5;
    private static final int PATCH = 6;

    private static final int ERROR_POWER = 2;
    private static final int ERROR_DIVISOR = 3;
    private static final int ERROR_ROOT = 4;
    private static final int ERROR_RANGE = 5;

    private static final int STEP_PUT = 0;
    private static final int STEP_ADD = 1;
    private static final int STEP_SUBTRACT = 2;
    private static final int STEP_MULTIPLY = 3;
    private static final int STEP_DIVIDE = 4;
    private static final int STEP_NEGATE = 5;
    private static final int STEP_SIZE = 6;
    private static final int STEP_DOUBLE = 7;
    private static final int STEP_EXCHANGE = 8;
    private static final int STEP_DROP = 9;
    private static final int STEP_LESS = 10;
    private static final int STEP_CHOOSE = 11;
    private static final int STEP_CUT = 12;
    private static final int STEP_ROOT = 13;

    /** How many numbers each step of a text takes from the stack, and how many it puts back. */
    private static final int[] TAKES = {0, 2, 2, 2, 2, 1, 1, 1, 2, 1, 2, 3, 1, 1};
    private static final int[] PUTS = {1, 1, 1, 1, 1, 1, 1, 2, 2, 0, 1, 1, 1, 1};

    private final Curve[] curves = new Curve[MOST_FUNCTIONS];
    private int curveCount;
    private Told collected = new Told();
    private final Work work = new Work();
    private int latestError;
    private final Shade[] shades = new Shade[MOST_SHADINGS];
    private int shadeCount;

    /** No functions, no steps, no shadings. */
    public ShadeRows() {
    }

    /** Collects a step: how many there are, or 0 if it was not taken. */
    public int text(int op, double v) {
        if (op < 0 || op >= TAKES.length || !isGood(v)) {
            return 0;
        }
        return collected.collect(op, v);
    }

    /** Makes a function: its number, or 0 if there is none made. */
    public int function(int kind, double a, double b, double c, double d) {
        Curve made = null;
        switch (kind) {
            case SAMPLED:
                made = sampledOf(a, b, c);
                break;
            case POWER:
                made = powerOf(a, b, c);
                break;
            case STITCHED:
                made = stitchedOf(a, b, c);
                break;
            case TEXT:
                made = takeCollected();
                break;
            default:
                break;
        }
        if (made == null || curveCount >= curves.length) {
            return 0;
        }
        curves[curveCount] = made;
        curveCount++;
        return curveCount;
    }

    /** Sets sample i of a sampled function: what it was. */
    public int sample(int function, int i, int v)
            throws NoSuchElementException, ArrayIndexOutOfBoundsException {
        if (!(curveOf(function) instanceof Sampled sampled)) {
            throw new NoSuchElementException("this function has no samples");
        }
        if (!sampled.has(i)) {
            throw new ArrayIndexOutOfBoundsException("there is no such sample");
        }
        return sampled.exchange(i, v & 255);
    }

    /** The value of a function at t. */
    public double value(int function, double t)
            throws NoSuchElementException, IllegalArgumentException {
        Curve curve = curveOf(function);
        if (!isGood(t)) {
            throw new IllegalArgumentException("t is not good");
        }
        work.forgetError();
        double answer = curve.at(t, work);
        latestError = work.firstError;
        return answer;
    }

    /** The error of the latest value(); 0 without one. */
    public int error() {
        return latestError;
    }

    /** Makes a shading: its number, or 0 if there is none made. */
    public int shading(int kind, double a, double b, double c, double d, double e, double f) {
        if (shadeCount >= shades.length) {
            return 0;
        }
        Shade made = kind >= PLANE && kind <= CIRCLES
                ? rampOf(kind, a, b, c, d, e, f)
                : meshOf(kind, a);
        if (made == null) {
            return 0;
        }
        shades[shadeCount] = made;
        shadeCount++;
        return shadeCount;
    }

    /** Adds a vertex to a shading of triangles: how many it has, or 0 if it was not taken. */
    public int vertex(int shading, double x, double y, int colour) throws NoSuchElementException {
        Shade shade = shadeOf(shading);
        if (!isGood(x) || !isGood(y)) {
            return 0;
        }
        return shade instanceof Mesh mesh ? mesh.addVertex(x, y, colour) : 0;
    }

    /** Sets point i of a patch: 1, or 0 if it was not taken. */
    public int patch(int shading, int i, double x, double y)
            throws NoSuchElementException, ArrayIndexOutOfBoundsException {
        Shade shade = shadeOf(shading);
        if (i < 0 || i >= PATCH_POINTS) {
            throw new ArrayIndexOutOfBoundsException("a patch has no such point");
        }
        if (!isGood(x) || !isGood(y)) {
            return 0;
        }
        return shade instanceof Patch bent ? bent.setPoint(i, x, y) : 0;
    }

    /** Extends a line or circles beyond the begin and the end, or not: 1; 0 for another kind. */
    public int extend(int shading, boolean begins, boolean ends) throws NoSuchElementException {
        return shadeOf(shading) instanceof Ramp ramp ? ramp.setExtent(begins, ends) : 0;
    }

    /** How many triangles a shading has. */
    public int pieces(int shading) throws NoSuchElementException {
        return shadeOf(shading).triangles();
    }

    /** A band of the colour at a point, -1 where it is not painted. */
    public int point(int shading, int x, int y, int band)
            throws NoSuchElementException, ArrayIndexOutOfBoundsException, IllegalArgumentException {
        Shade shade = shadeOf(shading);
        if (band < 0 || band >= BANDS) {
            throw new ArrayIndexOutOfBoundsException("a colour has no such band");
        }
        if (!isNear(x) || !isNear(y)) {
            throw new IllegalArgumentException("the point is too far away");
        }
        return shade.toneAt(x + 0.5, y + 0.5, band, work);
    }

    private Curve curveOf(int number) {
        if (number < 1 || number > curves.length) {
            throw new NoSuchElementException("there is no such function");
        }
        Curve curve = curves[number - 1];
        if (curve == null) {
            throw new NoSuchElementException("there is no such function");
        }
        return curve;
    }

    private Shade shadeOf(int number) {
        if (number < 1 || number > shades.length) {
            throw new NoSuchElementException("there is no such shading");
        }
        Shade shade = shades[number - 1];
        if (shade == null) {
            throw new NoSuchElementException("there is no such shading");
        }
        return shade;
    }

    private static Sampled sampledOf(double a, double b, double c) {
        boolean fits = isWhole(a, 2, MOST_SAMPLES) && isGood(b) && isGood(c) && b < c;
        return fits ? new Sampled((int) a, b, c) : null;
    }

    private static Power powerOf(double a, double b, double c) {
        boolean fits = isGood(a) && isGood(b) && isWhole(c, 0, 12);
        return fits ? new Power(a, b, (int) c) : null;
    }

    private Stitched stitchedOf(double a, double b, double c) {
        boolean fits = isWhole(a, 1, curveCount) && isWhole(b, 1, curveCount)
                && c >= 0.0 && c <= 1.0;
        return fits ? new Stitched(curveOf((int) a), curveOf((int) b), c) : null;
    }

    /** The collected steps leave in any case: right ones become the function itself. */
    private Told takeCollected() {
        Told told = collected;
        collected = new Told();
        return told.isRight() ? told : null;
    }

    private Ramp rampOf(int kind, double a, double b, double c, double d, double e, double f) {
        boolean fits = isGood(a) && isGood(b) && isGood(c);
        if (kind == LINE) {
            fits = fits && isGood(d) && (a != c || b != d);
        }
        if (kind == CIRCLES) {
            fits = fits && isGood(d) && isGood(e) && isGood(f) && c >= 0.0 && f >= 0.0
                    && (a != d || b != e || c != f);
        }
        if (!fits || curveCount < BANDS) {
            return null;
        }
        Ramp ramp = new Ramp(kind, a, b, c, d, e, f);
        ramp.setColours(curveOf(curveCount - 2), curveOf(curveCount - 1), curveOf(curveCount));
        return ramp;
    }

    private static Mesh meshOf(int kind, double a) {
        if (kind == FREE) {
            return new Mesh(0);
        }
        if (kind == LATTICE && isWhole(a, 2, 8)) {
            return new Mesh((int) a);
        }
        if (kind == PATCH && isWhole(a, 1, 6)) {
            return new Patch((int) a);
        }
        return null;
    }

    private static boolean isGood(double x) {
        return x >= -1000000.0 && x <= 1000000.0;
    }

    private static boolean isWhole(double x, int least, int most) {
        return x >= least && x <= most && x == (int) x;
    }

    private static boolean isNear(int place) {
        return place >= -FARTHEST && place <= FARTHEST;
    }

    private static double cut(double t, double p, double q) {
        return t < p ? p : t > q ? q : t;
    }

    /** For x of 0.0 or more: r begins at 1.0 or above and at most halves, so it never is 0.0. */
    private static double root(double x) {
        double r = x > 1.0 ? x : 1.0;
        for (int turn = 0; turn < 40; turn++) {
            r = (r + x / r) / 2.0;
        }
        return r;
    }

    /** The stack that a text works on, and the first error of the value that is being told. */
    private static final class Work {
        private final double[] numbers = new double[MOST_STACKED];
        private int size;
        private int firstError;

        void forgetError() {
            firstError = 0;
        }

        void note(int error) {
            if (firstError == 0) {
                firstError = error;
            }
        }

        void startWith(double t) {
            size = 0;
            push(t);
        }

        void push(double number) {
            if (size < numbers.length) {
                numbers[size] = number;
                size++;
            }
        }

        double pop() {
            if (size <= 0) {
                return 0.0;
            }
            size--;
            return numbers[size];
        }

        void apply(int op, double number) {
            switch (op) {
                case STEP_PUT:
                    push(number);
                    break;
                case STEP_DOUBLE:
                    double top = pop();
                    push(top);
                    push(top);
                    break;
                case STEP_EXCHANGE:
                    exchangeTop();
                    break;
                case STEP_DROP:
                    pop();
                    break;
                case STEP_CHOOSE:
                    choose();
                    break;
                case STEP_ROOT:
                    push(rootOf(pop()));
                    break;
                case STEP_NEGATE:
                case STEP_SIZE:
                case STEP_CUT:
                    push(ofOne(op, pop()));
                    break;
                default:
                    double b = pop();
                    double a = pop();
                    push(ofTwo(op, a, b));
                    break;
            }
        }

        private void exchangeTop() {
            double b = pop();
            double a = pop();
            push(b);
            push(a);
        }

        private void choose() {
            double c = pop();
            double b = pop();
            double a = pop();
            push(a != 0.0 ? b : c);
        }

        private static double ofOne(int op, double a) {
            switch (op) {
                case STEP_NEGATE:
                    return -a;
                case STEP_SIZE:
                    return a < 0.0 ? -a : a;
                default:
                    return cut(a, 0.0, 1.0);
            }
        }

        private double ofTwo(int op, double a, double b) {
            if (op == STEP_LESS) {
                return a < b ? 1.0 : 0.0;
            }
            if (op == STEP_DIVIDE && b == 0.0) {
                note(ERROR_DIVISOR);
                return 0.0;
            }
            double result = reckoned(op, a, b);
            if (result < -1.0e12 || result > 1.0e12) {
                note(ERROR_RANGE);
                return 0.0;
            }
            return result;
        }

        private static double reckoned(int op, double a, double b) {
            switch (op) {
                case STEP_ADD:
                    return a + b;
                case STEP_SUBTRACT:
                    return a - b;
                case STEP_MULTIPLY:
                    return a * b;
                default:
                    return b == 0.0 ? 0.0 : a / b;
            }
        }

        private double rootOf(double a) {
            if (a < 0.0) {
                note(ERROR_ROOT);
                return 0.0;
            }
            return root(a);
        }
    }

    /** A function of one number. Errors are noted on the work. */
    private abstract static class Curve {
        abstract double at(double t, Work work);
    }

    private static final class Sampled extends Curve {
        private final int[] samples = new int[MOST_SAMPLES];
        private final int count;
        private final double from;
        private final double to;

        Sampled(int count, double from, double to) {
            this.count = count;
            this.from = from;
            this.to = to;
        }

        boolean has(int i) {
            return i >= 0 && i < count && i < samples.length;
        }

        int exchange(int i, int sample) {
            int old = sampleAt(i);
            if (has(i)) {
                samples[i] = sample;
            }
            return old;
        }

        private int sampleAt(int i) {
            return has(i) ? samples[i] : 0;
        }

        double at(double t, Work work) {
            // Rounding may carry u a little beyond the last sample, never to the one behind it.
            double u = (cut(t, from, to) - from) * (count - 1) / (to - from);
            int i = (int) u;
            int s = sampleAt(i);
            if (i == count - 1) {
                return s / 255.0;
            }
            return s / 255.0 + (u - i) * (sampleAt(i + 1) - s) / 255.0;
        }
    }

    private static final class Power extends Curve {
        private final double from;
        private final double to;
        private final int times;

        Power(double from, double to, int times) {
            this.from = from;
            this.to = to;
            this.times = times;
        }

        double at(double t, Work work) {
            double base = cut(t, 0.0, 1.0);
            if (times == 0 && base == 0.0) {
                work.note(ERROR_POWER);
            }
            double p = 1.0;
            for (int turn = 0; turn < times; turn++) {
                p = p * base;
            }
            return from + p * (to - from);
        }
    }

    /** Its parts are older than itself, so one goes through at most MOST_FUNCTIONS of them. */
    private static final class Stitched extends Curve {
        private final Curve first;
        private final Curve second;
        private final double bound;

        Stitched(Curve first, Curve second, double bound) {
            this.first = first;
            this.second = second;
            this.bound = bound;
        }

        double at(double t, Work work) {
            double w = cut(t, 0.0, 1.0);
            if (w < bound) {
                return first.at(w / bound, work);
            }
            return second.at(bound == 1.0 ? 0.0 : (w - bound) / (1.0 - bound), work);
        }
    }

    /** A text: its steps are collected first, and it is a function once they are right. */
    private static final class Told extends Curve {
        private final int[] ops = new int[MOST_STEPS];
        private final double[] numbers = new double[MOST_STEPS];
        private int count;

        int collect(int op, double number) {
            if (count >= ops.length || count >= numbers.length) {
                return 0;
            }
            ops[count] = op;
            numbers[count] = number;
            count++;
            return count;
        }

        boolean isRight() {
            int depth = 1;
            for (int i = 0; i < count; i++) {
                int takes = of(TAKES, ops[i]);
                if (depth < takes) {
                    return false;
                }
                depth += of(PUTS, ops[i]) - takes;
                if (depth > MOST_STACKED) {
                    return false;
                }
            }
            return depth == 1;
        }

        private static int of(int[] row, int op) {
            return op >= 0 && op < row.length ? row[op] : 0;
        }

        double at(double t, Work work) {
            work.startWith(t);
            for (int i = 0; i < count; i++) {
                work.apply(ops[i], numbers[i]);
            }
            return work.pop();
        }
    }

    /** A shading. */
    private abstract static class Shade {
        /** A band of the colour at a place, or UNPAINTED. */
        abstract int toneAt(double x, double y, int band, Work work);

        abstract int triangles();
    }

    /** A shading whose colours are three functions of one number t: plane, line or circles. */
    private static final class Ramp extends Shade {
        private final int kind;
        private final double a;
        private final double b;
        private final double c;
        private final double d;
        private final double e;
        private final double f;
        private final Curve[] colours = new Curve[BANDS];
        private boolean begins;
        private boolean ends;

        Ramp(int kind, double a, double b, double c, double d, double e, double f) {
            this.kind = kind;
            this.a = a;
            this.b = b;
            this.c = c;
            this.d = d;
            this.e = e;
            this.f = f;
        }

        void setColours(Curve first, Curve second, Curve third) {
            colours[0] = first;
            colours[1] = second;
            colours[2] = third;
        }

        int setExtent(boolean begins, boolean ends) {
            if (kind == PLANE) {
                return 0;
            }
            this.begins = begins;
            this.ends = ends;
            return 1;
        }

        int triangles() {
            return 0;
        }

        int toneAt(double x, double y, int band, Work work) {
            if (kind == PLANE) {
                return toneOf(a * x + b * y + c, band, work);
            }
            double t = kind == LINE ? alongLine(x, y) : betweenCircles(x, y);
            return t < 0.0 ? UNPAINTED : toneOf(t, band, work);
        }

        private int toneOf(double t, int band, Work work) {
            Curve curve = band >= 0 && band < colours.length ? colours[band] : null;
            if (curve == null) {
                return UNPAINTED;
            }
            return (int) (cut(curve.at(t, work), 0.0, 1.0) * 255.0 + 0.5);
        }

        /** The t that is painted in the place of t, 0.0 .. 1.0; below 0.0, if there is none. */
        private double painted(double t) {
            if (t < 0.0) {
                return begins ? 0.0 : UNPAINTED;
            }
            if (t > 1.0) {
                return ends ? 1.0 : UNPAINTED;
            }
            return t;
        }

        private double alongLine(double x, double y) {
            double along = (x - a) * (c - a) + (y - b) * (d - b);
            double whole = (c - a) * (c - a) + (d - b) * (d - b);
            if (whole != 0.0) {
                return painted(along / whole);
            }
            // Ends that lie very near have squares of 0.0: then t is beyond all, or no number.
            if (along == 0.0) {
                return UNPAINTED;
            }
            return painted(along < 0.0 ? -1.0 : 2.0);
        }

        private double betweenCircles(double x, double y) {
            double dx = d - a;
            double dy = e - b;
            double dr = f - c;
            double qa = dx * dx + dy * dy - dr * dr;
            double qb = (x - a) * dx + (y - b) * dy + c * dr;
            double qc = (x - a) * (x - a) + (y - b) * (y - b) - c * c;
            if (qa == 0.0) {
                return qb == 0.0 ? UNPAINTED : counted(qc / (2.0 * qb), dr);
            }
            double under = qb * qb - qa * qc;
            if (under < 0.0) {
                return UNPAINTED;
            }
            double one = (qb + root(under)) / qa;
            double other = (qb - root(under)) / qa;
            double t = counted(one > other ? one : other, dr);
            return t < 0.0 ? counted(one > other ? other : one, dr) : t;
        }

        /** The t that is painted in the place of t, if the circle at t has a radius. */
        private double counted(double t, double dr) {
            return hasRadius(t, dr) ? painted(t) : UNPAINTED;
        }

        private boolean hasRadius(double t, double dr) {
            if (dr == 0.0) {
                // Without an end, t times 0.0 would be no number: such a t does not count.
                return t >= -1.7976931348623157e308 && t <= 1.7976931348623157e308;
            }
            return c + t * dr >= 0.0;
        }
    }

    /** Places with colours, the corners of triangles. */
    private static final class Net {
        private final double[] xs = new double[MOST_VERTICES];
        private final double[] ys = new double[MOST_VERTICES];
        private final double[] tones = new double[MOST_VERTICES * BANDS];

        boolean has(int i) {
            return i >= 0 && i < MOST_VERTICES;
        }

        void place(int i, double x, double y) {
            if (has(i)) {
                xs[i] = x;
                ys[i] = y;
            }
        }

        private boolean hasTone(int i, int band) {
            return has(i) && band >= 0 && band < BANDS;
        }

        void tint(int i, int band, double tone) {
            if (hasTone(i, band)) {
                tones[i * BANDS + band] = tone;
            }
        }

        double toneOf(int i, int band) {
            return hasTone(i, band) ? tones[i * BANDS + band] : 0.0;
        }

        /** A band of triangle P Q R at (x, y), or UNPAINTED. */
        int toneIn(int cornerP, int cornerQ, int cornerR, int band, double x, double y) {
            if (!has(cornerP) || !has(cornerQ) || !has(cornerR)) {
                return UNPAINTED;
            }
            double px = xs[cornerP];
            double py = ys[cornerP];
            double qx = xs[cornerQ];
            double qy = ys[cornerQ];
            double rx = xs[cornerR];
            double ry = ys[cornerR];
            double den = (qy - ry) * (px - rx) + (rx - qx) * (py - ry);
            if (den == 0.0) {
                return UNPAINTED;
            }
            double p = ((qy - ry) * (x - rx) + (rx - qx) * (y - ry)) / den;
            double q = ((ry - py) * (x - rx) + (px - rx) * (y - ry)) / den;
            // Before r is told: of a very small den, p and q may have no end, and r be no number.
            if (p < 0.0 || q < 0.0) {
                return UNPAINTED;
            }
            double r = 1.0 - p - q;
            if (r < 0.0) {
                return UNPAINTED;
            }
            return (int) (p * toneOf(cornerP, band) + q * toneOf(cornerQ, band)
                    + r * toneOf(cornerR, band) + 0.5);
        }
    }

    /** Triangles of vertices: by threes, or, with two columns or more, of a lattice. */
    private static class Mesh extends Shade {
        final Net vertices = new Net();
        private final int columns;
        private int count;

        Mesh(int columns) {
            this.columns = columns;
        }

        final int addVertex(double x, double y, int colour) {
            if (count >= MOST_VERTICES) {
                return 0;
            }
            vertices.place(count, x, y);
            for (int band = 0; band < BANDS; band++) {
                vertices.tint(count, band, (colour >> (8 * band)) & 255);
            }
            count++;
            return count;
        }

        final int vertexCount() {
            return count;
        }

        /** Where the triangles' corners are, with at least this band's colours. */
        Net corners(int band) {
            return vertices;
        }

        int triangles() {
            if (columns < 2) {
                return count / 3;
            }
            int rows = count / columns;
            return rows < 2 ? 0 : (rows - 1) * (columns - 1) * 2;
        }

        final int toneAt(double x, double y, int band, Work work) {
            int last = triangles() - 1;
            if (last < 0) {
                return UNPAINTED;
            }
            Net net = corners(band);
            for (int k = last; k >= 0; k--) {
                int tone = columns < 2
                        ? net.toneIn(3 * k, 3 * k + 1, 3 * k + 2, band, x, y)
                        : toneInLattice(net, k, band, x, y);
                if (tone != UNPAINTED) {
                    return tone;
                }
            }
            return UNPAINTED;
        }

        private int toneInLattice(Net net, int k, int band, double x, double y) {
            int inRow = (columns - 1) * 2;
            if (inRow <= 0) {
                return UNPAINTED;
            }
            int upperLeft = k / inRow * columns + k % inRow / 2;
            int upperRight = upperLeft + 1;
            int lowerLeft = upperLeft + columns;
            int lowerRight = lowerLeft + 1;
            return k % 2 == 0
                    ? net.toneIn(upperLeft, upperRight, lowerLeft, band, x, y)
                    : net.toneIn(upperRight, lowerLeft, lowerRight, band, x, y);
        }
    }

    /** A bent patch: a lattice of its own places, coloured by its four first vertices. */
    private static final class Patch extends Mesh {
        private final int parts;
        private final double[] xs = new double[PATCH_POINTS];
        private final double[] ys = new double[PATCH_POINTS];
        private final Net places = new Net();

        Patch(int parts) {
            super(parts + 1);
            this.parts = parts;
        }

        int setPoint(int i, double x, double y) {
            if (i < 0 || i >= PATCH_POINTS) {
                return 0;
            }
            xs[i] = x;
            ys[i] = y;
            return 1;
        }

        int triangles() {
            return vertexCount() < 4 ? 0 : parts * parts * 2;
        }

        Net corners(int band) {
            double a = parts;
            for (int j = 0; j <= parts; j++) {
                for (int i = 0; i <= parts; i++) {
                    layPlace(j * (parts + 1) + i, i / a, j / a, band);
                }
            }
            return places;
        }

        private void layPlace(int place, double u, double v, int band) {
            places.place(place, bentAt(xs, u, v), bentAt(ys, u, v));
            places.tint(place, band, (1.0 - u) * (1.0 - v) * vertices.toneOf(0, band)
                    + u * (1.0 - v) * vertices.toneOf(1, band)
                    + (1.0 - u) * v * vertices.toneOf(3, band)
                    + u * v * vertices.toneOf(2, band));
        }

        private static double bentAt(double[] at, double u, double v) {
            return (1.0 - v) * bent(at[0], at[1], at[2], at[3], u)
                    + v * bent(at[9], at[8], at[7], at[6], u)
                    + (1.0 - u) * bent(at[0], at[11], at[10], at[9], v)
                    + u * bent(at[3], at[4], at[5], at[6], v)
                    - ((1.0 - u) * (1.0 - v) * at[0] + u * (1.0 - v) * at[3]
                    + (1.0 - u) * v * at[9] + u * v * at[6]);
        }

        private static double bent(double p, double q, double r, double s, double u) {
            double w = 1.0 - u;
            return w * w * w * p + 3.0 * u * w * w * q + 3.0 * u * u * w * r + u * u * u * s;
        }
    }
}
