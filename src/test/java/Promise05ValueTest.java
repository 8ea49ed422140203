/** Promise 5: the value of a function. */
public final class Promise05ValueTest {
    public static void main(String[] args) {
        sampled();
        power();
        stitched();
        steps();
        wrong();
        Check.end("Promise05ValueTest");
    }

    private static void sampled() {
        ShadeRows x = new ShadeRows();
        x.function(0, 3.0, 10.0, 20.0, 0.0);
        x.sample(1, 0, 51);
        x.sample(1, 1, 255);
        x.sample(1, 2, 102);
        Check.same("first", x.value(1, 10.0), 0.2);
        Check.same("below", x.value(1, -1000000.0), 0.2);
        Check.same("second", x.value(1, 15.0), 1.0);
        Check.same("last", x.value(1, 20.0), 0.4);
        Check.same("above", x.value(1, 1000000.0), 0.4);
        Check.same("rising", x.value(1, 12.5), 51 / 255.0 + 0.5 * 204 / 255.0);
        Check.same("falling", x.value(1, 17.5), 255 / 255.0 + 0.5 * -153 / 255.0);
        x.sample(1, 1, 0);
        Check.same("another sample", x.value(1, 15.0), 0.0);
        x.function(0, 16.0, 0.0, Double.MIN_VALUE, 0.0);
        x.sample(2, 15, 255);
        Check.same("near, first", x.value(2, 0.0), 0.0);
        Check.same("near, last", x.value(2, Double.MIN_VALUE), 1.0);
    }

    private static void power() {
        ShadeRows x = new ShadeRows();
        x.function(1, 2.0, 6.0, 2.0, 0.0);
        Check.same("at 0.5", x.value(1, 0.5), 3.0);
        Check.same("at 0.0", x.value(1, 0.0), 2.0);
        Check.same("at 1.0", x.value(1, 1.0), 6.0);
        Check.same("below", x.value(1, -5.0), 2.0);
        Check.same("above", x.value(1, 5.0), 6.0);
        x.function(1, 2.0, 6.0, 0.0, 0.0);
        Check.same("power 0 at 0.5", x.value(2, 0.5), 6.0);
        Check.same("power 0 at 0.0", x.value(2, 0.0), 6.0);
        x.function(1, 0.0, 1.0, 12.0, 0.0);
        Check.same("power 12", x.value(3, 0.5), 1.0 / 4096.0);
    }

    private static void stitched() {
        ShadeRows x = new ShadeRows();
        x.function(1, 0.0, 8.0, 1.0, 0.0);
        x.function(1, 100.0, 200.0, 1.0, 0.0);
        x.function(2, 1.0, 2.0, 0.25, 0.0);
        Check.same("first part", x.value(3, 0.125), 4.0);
        Check.same("below", x.value(3, -1.0), 0.0);
        Check.same("bound", x.value(3, 0.25), 100.0);
        Check.same("second part", x.value(3, 0.625), 150.0);
        Check.same("above", x.value(3, 9.0), 200.0);
        x.function(2, 1.0, 2.0, 0.0, 0.0);
        Check.same("bound 0.0", x.value(4, 0.0), 100.0);
        Check.same("bound 0.0, then", x.value(4, 0.5), 150.0);
        x.function(2, 1.0, 2.0, 1.0, 0.0);
        Check.same("bound 1.0", x.value(5, 0.5), 4.0);
        Check.same("bound 1.0, at it", x.value(5, 1.0), 100.0);
        x.function(2, 3.0, 5.0, 0.5, 0.0);
        Check.same("stitched twice", x.value(6, 0.0625), 4.0);
        Check.same("stitched twice, above", x.value(6, 1.0), 100.0);
    }

    private static void steps() {
        Check.same("put", told(3.0, new double[] {8.5}, 9, 0), 8.5);
        Check.same("add", told(3.0, new double[] {4.0}, 0, 1), 7.0);
        Check.same("subtract", told(3.0, new double[] {4.0}, 0, 2), -1.0);
        Check.same("multiply", told(3.0, new double[] {4.0}, 0, 3), 12.0);
        Check.same("divide", told(3.0, new double[] {4.0}, 0, 4), 0.75);
        Check.same("divide by nothing", told(3.0, new double[] {0.0}, 0, 4), 0.0);
        Check.same("divide by nearly nothing", told(3.0, new double[] {1.0e-300}, 0, 4), 0.0);
        Check.same("negate", told(3.0, new double[] {}, 5), -3.0);
        Check.same("size below", told(-3.0, new double[] {}, 6), 3.0);
        Check.same("size", told(3.0, new double[] {}, 6), 3.0);
        Check.same("double", told(3.0, new double[] {}, 7, 3), 9.0);
        Check.same("exchange", told(3.0, new double[] {4.0}, 0, 8, 2), 1.0);
        Check.same("drop", told(3.0, new double[] {4.0}, 0, 9), 3.0);
        Check.same("less", told(3.0, new double[] {4.0}, 0, 10), 1.0);
        Check.same("not less", told(4.0, new double[] {4.0}, 0, 10), 0.0);
        Check.same("choose b", told(-0.5, new double[] {7.0, 8.0}, 0, 0, 11), 7.0);
        Check.same("choose c", told(0.0, new double[] {7.0, 8.0}, 0, 0, 11), 8.0);
        Check.same("cut below", told(-3.0, new double[] {}, 12), 0.0);
        Check.same("cut above", told(3.0, new double[] {}, 12), 1.0);
        Check.same("cut within", told(0.3, new double[] {}, 12), 0.3);
        Check.same("root", told(16.0, new double[] {}, 13), 4.0);
        Check.same("root of nothing", told(0.0, new double[] {}, 13), 9.094947017729282E-13);
        Check.same("root of much", told(1000000.0, new double[] {}, 13), 1000.0);
        Check.same("root below", told(-16.0, new double[] {}, 13), 0.0);
        Check.same("just in range", told(1000000.0, new double[] {1000000.0}, 0, 3), 1.0e12);
        Check.same("just in range below", told(1000000.0, new double[] {-1000000.0}, 0, 3), -1.0e12);
        Check.same("beyond", told(1000000.0, new double[] {1000000.0, 1.0}, 0, 3, 0, 1), 0.0);
        Check.same("beyond below", told(1000000.0, new double[] {-1000000.0, 1.0}, 0, 3, 0, 2), 0.0);
        Check.same("goes on with 0.0", told(1.0e6, new double[] {5.0}, 7, 3, 7, 3, 0, 1), 5.0);
    }

    private static double told(double t, double[] numbers, int... ops) {
        ShadeRows x = new ShadeRows();
        int used = 0;
        for (int op : ops) {
            x.text(op, op == 0 ? numbers[used] : 99.0);
            used += op == 0 ? 1 : 0;
        }
        Check.same("it is right", x.function(3, 0.0, 0.0, 0.0, 0.0), 1);
        double first = x.value(1, t);
        Check.same("a second time the same", x.value(1, t), first);
        return first;
    }

    private static void wrong() {
        ShadeRows x = new ShadeRows();
        x.function(1, 2.0, 6.0, 1.0, 0.0);
        Check.noSuch("function 0", () -> x.value(0, 0.0));
        Check.noSuch("function 2", () -> x.value(2, 0.0));
        Check.noSuch("function -1, and t", () -> x.value(-1, Double.NaN));
        Check.badArgument("no number", () -> x.value(1, Double.NaN));
        Check.badArgument("no end", () -> x.value(1, Double.POSITIVE_INFINITY));
        Check.badArgument("no end below", () -> x.value(1, Double.NEGATIVE_INFINITY));
        Check.badArgument("not good", () -> x.value(1, 1000000.0000000001));
        Check.badArgument("not good below", () -> x.value(1, -1000000.0000000001));
        Check.same("just good", x.value(1, 1000000.0), 6.0);
        Check.same("just good below", x.value(1, -1000000.0), 2.0);
    }
}
