import java.util.ArrayList;
import java.util.List;
import java.util.NoSuchElementException;

/**
 * The document told a second time, to compare with: all in lists, every sum as it stands, with
 * whatever a double makes of it (no end, no number), and all triangles painted from the first on.
 */
final class Model {
    private record Step(int op, double v) {
    }

    private record Func(int kind, double[] n, int[] bytes, List<Step> steps) {
    }

    private record Corner(double x, double y, double[] tones) {
    }

    private static final class Shaded {
        int kind;
        double[] n;
        Func[] by = new Func[3];
        boolean begins;
        boolean ends;
        List<Corner> vertices = new ArrayList<>();
        double[][] points = new double[12][2];
    }

    private final List<Func> funcs = new ArrayList<>();
    private final List<Shaded> shadeds = new ArrayList<>();
    private List<Step> steps = new ArrayList<>();
    private int lastError;
    private final List<Integer> errors = new ArrayList<>();

    static boolean good(double x) {
        return !Double.isNaN(x) && Math.abs(x) <= 1000000.0;
    }

    private static boolean whole(double x, int p, int q) {
        return good(x) && Math.rint(x) == x && x >= p && x <= q;
    }

    private static double cut(double t, double p, double q) {
        if (t < p) {
            return p;
        }
        return t > q ? q : t;
    }

    private static double root(double x) {
        double r = Math.max(x, 1.0);
        int left = 40;
        while (left-- > 0) {
            r = (r + x / r) / 2.0;
        }
        return r;
    }

    int text(int op, double v) {
        if (op < 0 || op > 13 || !good(v) || steps.size() == 24) {
            return 0;
        }
        steps.add(new Step(op, v));
        return steps.size();
    }

    int function(int kind, double a, double b, double c) {
        List<Step> taken = steps;
        if (kind == 3) {
            steps = new ArrayList<>();
        }
        boolean right = switch (kind) {
            case 0 -> whole(a, 2, 16) && good(b) && good(c) && b < c;
            case 1 -> good(a) && good(b) && whole(c, 0, 12);
            case 2 -> whole(a, 1, funcs.size()) && whole(b, 1, funcs.size()) && c >= 0 && c <= 1;
            case 3 -> right(taken);
            default -> false;
        };
        if (!right || funcs.size() == 24) {
            return 0;
        }
        funcs.add(new Func(kind, new double[] {a, b, c}, new int[kind == 0 ? (int) a : 0], taken));
        return funcs.size();
    }

    private static boolean right(List<Step> text) {
        int there = 1;
        for (Step step : text) {
            int takes = "02222111212311".charAt(step.op) - '0';
            int gives = "11111112201111".charAt(step.op) - '0';
            if (there < takes) {
                return false;
            }
            there = there - takes + gives;
            if (there > 8) {
                return false;
            }
        }
        return there == 1;
    }

    private Func func(int number) {
        if (number < 1 || number > funcs.size()) {
            throw new NoSuchElementException();
        }
        return funcs.get(number - 1);
    }

    private Shaded shaded(int number) {
        if (number < 1 || number > shadeds.size()) {
            throw new NoSuchElementException();
        }
        return shadeds.get(number - 1);
    }

    int sample(int function, int i, int v) {
        Func f = func(function);
        if (f.kind != 0) {
            throw new NoSuchElementException();
        }
        if (i < 0 || i >= f.bytes.length) {
            throw new ArrayIndexOutOfBoundsException();
        }
        int old = f.bytes[i];
        f.bytes[i] = v & 0xff;
        return old;
    }

    double value(int function, double t) {
        Func f = func(function);
        if (!good(t)) {
            throw new IllegalArgumentException();
        }
        errors.clear();
        double v = valueOf(f, t);
        lastError = errors.isEmpty() ? 0 : errors.get(0);
        return v;
    }

    int error() {
        return lastError;
    }

    private double valueOf(Func f, double t) {
        double a = f.n[0];
        double b = f.n[1];
        double c = f.n[2];
        if (f.kind == 0) {
            double u = (cut(t, b, c) - b) * (a - 1) / (c - b);
            int i = (int) Math.floor(u);
            if (i == f.bytes.length - 1) {
                return f.bytes[i] / 255.0;
            }
            return f.bytes[i] / 255.0 + (u - i) * (f.bytes[i + 1] - f.bytes[i]) / 255.0;
        }
        if (f.kind == 1) {
            double p = 1.0;
            double base = cut(t, 0.0, 1.0);
            if (c == 0 && base == 0.0) {
                errors.add(2);
            }
            for (double left = c; left > 0; left--) {
                p *= base;
            }
            return a + p * (b - a);
        }
        if (f.kind == 2) {
            double w = cut(t, 0.0, 1.0);
            if (w < c) {
                return valueOf(func((int) a), w / c);
            }
            return valueOf(func((int) b), c == 1.0 ? 0.0 : (w - c) / (1.0 - c));
        }
        List<Double> stack = new ArrayList<>(List.of(t));
        for (Step step : f.steps) {
            doStep(step, stack);
        }
        return stack.get(0);
    }

    private static double pop(List<Double> stack) {
        return stack.remove(stack.size() - 1);
    }

    private void doStep(Step step, List<Double> stack) {
        int takes = "02222111212311".charAt(step.op) - '0';
        double[] taken = new double[3];
        for (int i = takes - 1; i >= 0; i--) {
            taken[i] = pop(stack);
        }
        double a = taken[0];
        double b = taken[1];
        switch (step.op) {
            case 0 -> stack.add(step.v);
            case 1 -> stack.add(kept(a + b));
            case 2 -> stack.add(kept(a - b));
            case 3 -> stack.add(kept(a * b));
            case 4 -> {
                if (b == 0.0) {
                    errors.add(3);
                    stack.add(0.0);
                } else {
                    stack.add(kept(a / b));
                }
            }
            case 5 -> stack.add(-a);
            case 6 -> stack.add(a < 0.0 ? -a : a);
            case 7 -> {
                stack.add(a);
                stack.add(a);
            }
            case 8 -> {
                stack.add(b);
                stack.add(a);
            }
            case 9 -> {
            }
            case 10 -> stack.add(a < b ? 1.0 : 0.0);
            case 11 -> stack.add(a != 0.0 ? b : taken[2]);
            case 12 -> stack.add(cut(a, 0.0, 1.0));
            default -> {
                if (a < 0.0) {
                    errors.add(4);
                }
                stack.add(a < 0.0 ? 0.0 : root(a));
            }
        }
    }

    private double kept(double x) {
        if (x < -1.0e12 || x > 1.0e12) {
            errors.add(5);
            return 0.0;
        }
        return x;
    }

    int shading(int kind, double... n) {
        if (kind < 1 || kind > 6 || shadeds.size() == 24) {
            return 0;
        }
        int used = new int[] {0, 3, 4, 6, 0, 1, 1}[kind];
        for (int i = 0; i < used; i++) {
            if (!good(n[i])) {
                return 0;
            }
        }
        boolean right = switch (kind) {
            case 2 -> !(n[0] == n[2] && n[1] == n[3]);
            case 3 -> n[2] >= 0 && n[5] >= 0 && !(n[0] == n[3] && n[1] == n[4] && n[2] == n[5]);
            case 5 -> whole(n[0], 2, 8);
            case 6 -> whole(n[0], 1, 6);
            default -> true;
        };
        if (!right || kind <= 3 && funcs.size() < 3) {
            return 0;
        }
        Shaded s = new Shaded();
        s.kind = kind;
        s.n = n;
        for (int band = 0; band < 3 && kind <= 3; band++) {
            s.by[band] = funcs.get(funcs.size() - 3 + band);
        }
        shadeds.add(s);
        return shadeds.size();
    }

    int vertex(int shading, double x, double y, int colour) {
        Shaded s = shaded(shading);
        if (s.kind < 4 || !good(x) || !good(y) || s.vertices.size() == 60) {
            return 0;
        }
        double[] tones = {colour & 255, (colour >>> 8) & 255, (colour >>> 16) & 255};
        s.vertices.add(new Corner(x, y, tones));
        return s.vertices.size();
    }

    int patch(int shading, int i, double x, double y) {
        Shaded s = shaded(shading);
        if (i < 0 || i > 11) {
            throw new ArrayIndexOutOfBoundsException();
        }
        if (s.kind != 6 || !good(x) || !good(y)) {
            return 0;
        }
        s.points[i] = new double[] {x, y};
        return 1;
    }

    int extend(int shading, boolean begins, boolean ends) {
        Shaded s = shaded(shading);
        if (s.kind != 2 && s.kind != 3) {
            return 0;
        }
        s.begins = begins;
        s.ends = ends;
        return 1;
    }

    int pieces(int shading) {
        return triangles(shaded(shading)).size();
    }

    int point(int shading, int x, int y, int band) {
        Shaded s = shaded(shading);
        if (band < 0 || band > 2) {
            throw new ArrayIndexOutOfBoundsException();
        }
        if (x < -10000 || x > 10000 || y < -10000 || y > 10000) {
            throw new IllegalArgumentException();
        }
        double mx = x + 0.5;
        double my = y + 0.5;
        if (s.kind > 3) {
            int tone = -1;
            for (Corner[] triangle : triangles(s)) {
                int now = inTriangle(triangle[0], triangle[1], triangle[2], mx, my, band);
                tone = now >= 0 ? now : tone;
            }
            return tone;
        }
        double t = numberAt(s, mx, my);
        if (Double.isNaN(t)) {
            return -1;
        }
        double at = s.kind == 1 ? t : cut(t, 0.0, 1.0);
        return (int) (cut(valueOf(s.by[band], at), 0.0, 1.0) * 255.0 + 0.5);
    }

    /** t, NaN where there is none, or it is not painted. */
    private double numberAt(Shaded s, double x, double y) {
        double a = s.n[0];
        double b = s.n[1];
        double c = s.n[2];
        double d = s.n[3];
        if (s.kind == 1) {
            return a * x + b * y + c;
        }
        if (s.kind == 2) {
            double t = ((x - a) * (c - a) + (y - b) * (d - b))
                    / ((c - a) * (c - a) + (d - b) * (d - b));
            return isPainted(s, t) ? t : Double.NaN;
        }
        double dx = d - a;
        double dy = s.n[4] - b;
        double dr = s.n[5] - c;
        double qa = dx * dx + dy * dy - dr * dr;
        double qb = (x - a) * dx + (y - b) * dy + c * dr;
        double qc = (x - a) * (x - a) + (y - b) * (y - b) - c * c;
        double[] tries = {};
        if (qa == 0.0 && qb != 0.0) {
            tries = new double[] {qc / (2.0 * qb)};
        }
        double under = qb * qb - qa * qc;
        if (qa != 0.0 && under >= 0.0) {
            double one = (qb + root(under)) / qa;
            double two = (qb - root(under)) / qa;
            tries = new double[] {Math.max(one, two), Math.min(one, two)};
        }
        for (double t : tries) {
            if (c + t * dr >= 0.0 && isPainted(s, t)) {
                return t;
            }
        }
        return Double.NaN;
    }

    private static boolean isPainted(Shaded s, double t) {
        return t >= 0.0 && t <= 1.0 || t < 0.0 && s.begins || t > 1.0 && s.ends;
    }

    private static List<Corner[]> triangles(Shaded s) {
        List<Corner[]> made = new ArrayList<>();
        if (s.kind == 4) {
            for (int i = 2; i < s.vertices.size(); i += 3) {
                made.add(s.vertices.subList(i - 2, i + 1).toArray(new Corner[0]));
            }
        }
        if (s.kind == 5) {
            addLattice(made, s.vertices, (int) s.n[0]);
        }
        if (s.kind == 6 && s.vertices.size() >= 4) {
            List<Corner> places = new ArrayList<>();
            for (int j = 0; j <= s.n[0]; j++) {
                for (int i = 0; i <= s.n[0]; i++) {
                    places.add(placeOf(s, i / s.n[0], j / s.n[0]));
                }
            }
            addLattice(made, places, (int) s.n[0] + 1);
        }
        return made;
    }

    private static void addLattice(List<Corner[]> made, List<Corner> from, int columns) {
        for (int row = 0; (row + 2) * columns <= from.size(); row++) {
            for (int column = 0; column + 1 < columns; column++) {
                Corner ul = from.get(row * columns + column);
                Corner ur = from.get(row * columns + column + 1);
                Corner ll = from.get((row + 1) * columns + column);
                Corner lr = from.get((row + 1) * columns + column + 1);
                made.add(new Corner[] {ul, ur, ll});
                made.add(new Corner[] {ur, ll, lr});
            }
        }
    }

    private static Corner placeOf(Shaded s, double u, double v) {
        double[] xy = new double[2];
        for (int k = 0; k < 2; k++) {
            double[][] p = s.points;
            xy[k] = (1.0 - v) * bent(p[0][k], p[1][k], p[2][k], p[3][k], u)
                    + v * bent(p[9][k], p[8][k], p[7][k], p[6][k], u)
                    + (1.0 - u) * bent(p[0][k], p[11][k], p[10][k], p[9][k], v)
                    + u * bent(p[3][k], p[4][k], p[5][k], p[6][k], v)
                    - mixed(p[0][k], p[3][k], p[9][k], p[6][k], u, v);
        }
        double[] tones = new double[3];
        for (int band = 0; band < 3; band++) {
            tones[band] = mixed(s.vertices.get(0).tones[band], s.vertices.get(1).tones[band],
                    s.vertices.get(3).tones[band], s.vertices.get(2).tones[band], u, v);
        }
        return new Corner(xy[0], xy[1], tones);
    }

    private static double mixed(double c0, double c3, double c9, double c6, double u, double v) {
        return (1.0 - u) * (1.0 - v) * c0 + u * (1.0 - v) * c3 + (1.0 - u) * v * c9 + u * v * c6;
    }

    private static double bent(double p, double q, double r, double s, double u) {
        double w = 1.0 - u;
        return w * w * w * p + 3.0 * u * w * w * q + 3.0 * u * u * w * r + u * u * u * s;
    }

    private static int inTriangle(Corner p, Corner q, Corner r, double x, double y, int band) {
        double den = (q.y - r.y) * (p.x - r.x) + (r.x - q.x) * (p.y - r.y);
        if (den == 0.0) {
            return -1;
        }
        double wp = ((q.y - r.y) * (x - r.x) + (r.x - q.x) * (y - r.y)) / den;
        double wq = ((r.y - p.y) * (x - r.x) + (p.x - r.x) * (y - r.y)) / den;
        double wr = 1.0 - wp - wq;
        if (wp < 0.0 || wq < 0.0 || wr < 0.0) {
            return -1;
        }
        return (int) (wp * p.tones[band] + wq * q.tones[band] + wr * r.tones[band] + 0.5);
    }
}
