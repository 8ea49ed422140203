import java.util.Random;

/** Runs of up to 512 calls by chance (always the same ones), each compared with the model. */
public final class RandomRunsTest {
    private static final double[] ODD = {
        0.0, -0.0, 1.0, -1.0, 0.5, 1.0e6, -1.0e6, 1000000.5, -1000000.5, Double.NaN,
        Double.POSITIVE_INFINITY, Double.NEGATIVE_INFINITY, Double.MIN_VALUE, -Double.MIN_VALUE,
        1.0e-160, -1.0e-160, 1.0e-200, 1.0e-308, 0.1, 1.0 / 3.0, 0.9999999999999999, 1.0e-9,
    };

    private final Random chance;
    private final ShadeRows x = new ShadeRows();
    private final Model model = new Model();
    private final boolean wild;
    private static final int[] PAINTED = new int[7];
    private static final int[] UNPAINTED = new int[7];
    private final int[] kinds = new int[30];
    private int shadings;

    private RandomRunsTest(long seed) {
        chance = new Random(seed);
        wild = seed % 3 == 0;
    }

    public static void main(String[] args) {
        for (long seed = 1; seed <= 3000; seed++) {
            RandomRunsTest run = new RandomRunsTest(seed);
            int calls = run.chance.nextInt(512) + 1;
            for (int i = 0; i < calls; i++) {
                run.call(seed, run.chance.nextInt(100));
            }
        }
        for (int kind = 1; kind <= 6; kind++) {
            Check.isTrue("kind " + kind + " is painted often", PAINTED[kind] > 2000);
            Check.isTrue("kind " + kind + " is not painted often", kind == 1 || UNPAINTED[kind] > 2000);
        }
        Check.end("RandomRunsTest");
    }

    private double number() {
        int way = chance.nextInt(wild ? 4 : 12);
        if (way == 0) {
            return ODD[chance.nextInt(wild ? ODD.length : 5)];
        }
        if (way == 1) {
            return chance.nextDouble();
        }
        return way == 2 ? chance.nextDouble() * 40.0 - 10.0 : chance.nextInt(25) - 8;
    }

    private double place() {
        return chance.nextInt(20) == 0 ? number() : chance.nextInt(41) / 2.0 - 2.0;
    }

    private int some(int least, int most) {
        return chance.nextInt(40) == 0
                ? chance.nextInt(60) - 20
                : least + chance.nextInt(most - least + 1);
    }

    private void same(long seed, String what, Check.Call got, Check.Call due) {
        Object a = answer(got);
        Object b = answer(due);
        boolean alike = a.equals(b)
                || a instanceof Double p && b instanceof Double q && p.doubleValue() == q.doubleValue();
        Check.isTrue("run " + seed + ": " + what + " answered " + a + " for " + b, alike);
    }

    private static Object answer(Check.Call call) {
        try {
            return call.run();
        } catch (RuntimeException e) {
            return e.getClass();
        }
    }

    private void call(long seed, int which) {
        if (which < 12) {
            callText(seed);
        } else if (which < 24) {
            callFunction(seed);
        } else if (which < 30) {
            callValue(seed);
        } else if (which < 38) {
            callShading(seed);
        } else if (which < 60) {
            callMesh(seed);
        } else {
            callPoint(seed);
        }
    }

    private void callText(long seed) {
        int op = some(0, 13);
        double v = number();
        same(seed, "text " + op + " " + v, () -> x.text(op, v), () -> model.text(op, v));
    }

    private void callFunction(long seed) {
        int kind = some(0, 3);
        double a = kind == 0 || kind == 2 ? some(1, 12) : number();
        double b = kind == 0 ? -chance.nextInt(3) : kind == 2 ? some(1, 5) : number();
        double c = kind == 1 ? some(0, 12) : chance.nextInt(3) == 0 ? number() : chance.nextDouble();
        same(seed, "function " + kind + " " + a + " " + b + " " + c,
                () -> x.function(kind, a, b, c, Double.NaN), () -> model.function(kind, a, b, c));
        for (int k = 0; k < 4; k++) {
            int n = some(1, 8);
            int i = some(0, 5);
            int v = chance.nextInt(2) == 0 ? chance.nextInt() : 255;
            same(seed, "sample", () -> x.sample(n, i, v), () -> model.sample(n, i, v));
        }
    }

    private void callValue(long seed) {
        int n = some(1, 10);
        double t = chance.nextBoolean() ? chance.nextDouble() : number();
        same(seed, "value " + n + " " + t, () -> x.value(n, t), () -> model.value(n, t));
        same(seed, "error", () -> x.error(), () -> model.error());
    }

    private void callShading(long seed) {
        int kind = some(1, 6);
        double[] n = new double[6];
        for (int i = 0; i < 6; i++) {
            n[i] = kind == 1 ? number() / 10.0 : kind > 3 ? some(1, 6) : place();
        }
        if (kind == 3 && chance.nextInt(3) > 0) {
            n[2] = Math.abs(n[2]);
            n[5] = chance.nextInt(3) > 0 ? Math.abs(n[5]) : n[2];
            if (chance.nextInt(4) == 0) {
                n[4] = n[1];
                n[3] = n[0] + n[5] - n[2];
            }
        }
        if (kind == 2 && chance.nextInt(8) == 0) {
            n[2] = n[0] + number() * 1.0e-200;
        }
        int[] made = new int[1];
        same(seed, "shading " + kind + " " + java.util.Arrays.toString(n),
                () -> made[0] = x.shading(kind, n[0], n[1], n[2], n[3], n[4], n[5]),
                () -> model.shading(kind, n));
        if (made[0] > 0) {
            shadings = made[0];
            kinds[shadings] = kind;
        }
        boolean begins = chance.nextBoolean();
        boolean ends = chance.nextBoolean();
        int s = some(1, shadings + 1);
        same(seed, "extend", () -> x.extend(s, begins, ends), () -> model.extend(s, begins, ends));
    }

    private void callMesh(long seed) {
        int s = some(1, shadings + 1);
        for (int k = 0; k < 3; k++) {
            double px = place();
            double py = place();
            int colour = chance.nextInt();
            int i = some(0, 11);
            same(seed, "vertex", () -> x.vertex(s, px, py, colour), () -> model.vertex(s, px, py, colour));
            same(seed, "patch", () -> x.patch(s, i, py, px), () -> model.patch(s, i, py, px));
        }
        same(seed, "pieces", () -> x.pieces(s), () -> model.pieces(s));
    }

    private void callPoint(long seed) {
        int s = some(1, shadings + 1);
        int px = chance.nextInt(60) == 0 ? chance.nextInt(20100) - 10050 : chance.nextInt(24) - 4;
        int py = chance.nextInt(60) == 0 ? chance.nextInt(20100) - 10050 : chance.nextInt(24) - 4;
        int band = some(0, 2);
        int[] got = {-2};
        same(seed, "point " + s + " (kind " + (s > 0 && s < 30 ? kinds[s] : 0) + ") " + px + " " + py,
                () -> got[0] = x.point(s, px, py, band), () -> model.point(s, px, py, band));
        if (got[0] >= 0) {
            PAINTED[kinds[s]]++;
        }
        if (got[0] == -1) {
            UNPAINTED[kinds[s]]++;
        }
        same(seed, "error", () -> x.error(), () -> model.error());
    }
}
