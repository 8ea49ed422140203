/** Promise 4: sample sets a byte and tells what it was. */
public final class Promise04SampleTest {
    public static void main(String[] args) {
        ShadeRows x = new ShadeRows();
        x.function(0, 3.0, 0.0, 1.0, 0.0);
        x.function(1, 0.0, 1.0, 1.0, 0.0);
        x.function(0, 16.0, 0.0, 1.0, 0.0);
        x.function(2, 1.0, 1.0, 0.5, 0.0);
        x.function(3, 0.0, 0.0, 0.0, 0.0);
        for (int i = 0; i < 3; i++) {
            Check.same("at first " + i, x.sample(1, i, 100 + i), 0);
        }
        for (int i = 0; i < 3; i++) {
            Check.same("then " + i, x.sample(1, i, 0), 100 + i);
        }
        x.sample(1, 0, 300);
        Check.same("the lowest eight bits", x.sample(1, 0, -1), 44);
        Check.same("of -1", x.sample(1, 0, Integer.MIN_VALUE), 255);
        Check.same("of the least", x.sample(1, 0, 0), 0);
        Check.same("the other one's", x.sample(3, 15, 9), 0);
        Check.same("stays", x.sample(3, 15, 9), 9);
        Check.badIndex("sample 3", () -> x.sample(1, 3, 0));
        Check.badIndex("sample -1", () -> x.sample(1, -1, 0));
        Check.badIndex("sample 16", () -> x.sample(3, 16, 0));
        Check.badIndex("sample most", () -> x.sample(1, Integer.MAX_VALUE, 0));
        Check.badIndex("sample least", () -> x.sample(1, Integer.MIN_VALUE, 0));
        for (int i : new int[] {-1, 0, 2, 4, 5, 6, 24, 25}) {
            Check.noSuch("function " + i, () -> x.sample(i, 0, 0));
            Check.noSuch("function, and sample, " + i, () -> x.sample(i, 99, 0));
        }
        Check.end("Promise04SampleTest");
    }
}
