/** The edges in what the document says of texts: the stack, each step, and what is right. */
public final class EdgesOfTextsTest {
    private static final double TRILLION = 1.0e12;
    private static final double HAIR = Math.ulp(TRILLION);

    public static void main(String[] args) {
        Sentence.holds("They have a stack, at first with t alone, 8 numbers at most.",
                EdgesOfTextsTest::stack);
        Sentence.holds("0 puts its number", EdgesOfTextsTest::puts);
        Sentence.holds("4 a / b (0.0 and ERROR 3 when b is 0.0)", EdgesOfTextsTest::divides);
        Sentence.holds("each 0.0 and ERROR 5 where it is below -1.0e12 or above 1.0e12",
                EdgesOfTextsTest::tooLarge);
        Sentence.holds("5 -a; 6 a, or -a if it is below 0.0", EdgesOfTextsTest::signs);
        Sentence.holds("7 doubles; 8 exchanges; 9 drops", EdgesOfTextsTest::moves);
        Sentence.holds("10 1.0 if a < b, else 0.0", EdgesOfTextsTest::less);
        Sentence.holds("11 of three, a b c: b, if a is not 0.0, else c", EdgesOfTextsTest::chooses);
        Sentence.holds("12 CUT(a, 0.0, 1.0)", EdgesOfTextsTest::cuts);
        Sentence.holds("13 ROOT(a) (0.0 and ERROR 4 when a is below 0.0)", EdgesOfTextsTest::roots);
        Sentence.holds("(b on top of a.)", EdgesOfTextsTest::onTop);
        Sentence.holds("A text is right, if each step has what it takes, never more than 8 are"
                + " there, and one is left.", EdgesOfTextsTest::right);
        Check.end("EdgesOfTextsTest");
    }

    private static void value(String what, double t, double due, int error, double... words) {
        ShadeRows x = new ShadeRows();
        Check.same(what + " is right", Made.text(x, words), 1);
        Check.same(what, x.value(1, t), due);
        Check.same(what + ", its error", x.error(), error);
        Check.same(what + ", once more", x.value(1, t), due);
    }

    private static void stack() {
        value("t alone", 42.0, 42.0, 0);
        value("t at the bottom of eight", 42.0, 42.0, 0,
                0, 1, 0, 2, 0, 3, 0, 4, 0, 5, 0, 6, 0, 7, 9, 9, 9, 9, 9, 9, 9);
        // t 1 2 3 4 5 6 7: each number counts in another way than all others.
        value("all of eight", 0.5, 1234567.5, 0,
                0, 1000000, 0, 200000, 0, 30000, 0, 4000, 0, 500, 0, 60, 0, 7, 1, 1, 1, 1, 1, 1, 1);
        value("eight that are told apart", 1.0, 1 - (2 - (3 - (4 - (5 - (6 - (7 - 8)))))), 0,
                0, 2, 0, 3, 0, 4, 0, 5, 0, 6, 0, 7, 0, 8, 2, 2, 2, 2, 2, 2, 2);
        value("eight by doubling", 3.0, 24.0, 0, 7, 7, 7, 7, 7, 7, 7, 1, 1, 1, 1, 1, 1, 1);
        Check.same("nine by doubling", made(7, 7, 7, 7, 7, 7, 7, 7, 1, 1, 1, 1, 1, 1, 1, 1), 0);
        Check.same("nine by a number", made(7, 7, 7, 7, 7, 7, 7, 0, 1, 1, 1, 1, 1, 1, 1, 1, 1), 0);
        value("a full stack, exchanged", 3.0, 3.0, 0,
                0, 1, 7, 7, 7, 7, 7, 0, 9, 8, 9, 9, 9, 9, 9, 9, 9);
        ShadeRows x = new ShadeRows();
        int full = Made.text(x, 7, 7, 7, 7, 7, 7, 7, 1, 1, 1, 1, 1, 1, 1);
        int drops = Made.text(x, 9, 0, 5.0);
        x.function(2, full, drops, 0.5, 0.0);
        Check.same("nothing is left of a value", x.value(full, 1.0), 8.0);
        Check.same("for the next one", x.value(drops, 1.0), 5.0);
        Check.same("nor in a part", x.value(3, 0.25), 4.0);
        Check.same("nor for the other", x.value(3, 0.5), 5.0);
    }

    private static void puts() {
        for (double n : new double[] {Made.MOST, -Made.MOST, 0.0, Double.MIN_VALUE, -1.5}) {
            value("puts " + n, 7.0, n, 0, 9, 0, n);
        }
        ShadeRows x = new ShadeRows();
        x.text(5, 99.0);
        x.function(3, 0.0, 0.0, 0.0, 0.0);
        Check.same("other steps have no use for theirs", x.value(1, 7.0), -7.0);
    }

    private static void divides() {
        value("7 / 2", 7.0, 3.5, 0, 0, 2.0, 4);
        value("by 0.0", 7.0, 0.0, 3, 0, 0.0, 4);
        value("by -0.0", 7.0, 0.0, 3, 0, -0.0, 4);
        value("0.0 by 0.0", 0.0, 0.0, 3, 0, 0.0, 4);
        value("by the least", 7.0, 0.0, 5, 0, Double.MIN_VALUE, 4);
        value("by minus the least", 7.0, 0.0, 5, 0, -Double.MIN_VALUE, 4);
        value("the least by itself", Double.MIN_VALUE, 1.0, 0, 7, 4);
        value("0.0 by the least", 0.0, 0.0, 0, 0, Double.MIN_VALUE, 4);
        value("goes on with 0.0", 7.0, 5.0, 3, 0, 0.0, 4, 0, 5.0, 1);
    }

    /** t is a million, so that 7 and 3 make just 1.0e12 of it. */
    private static void tooLarge() {
        double t = Made.MOST;
        value("just 1.0e12", t, TRILLION, 0, 7, 3);
        value("just -1.0e12", t, -TRILLION, 0, 7, 5, 3);
        value("+ nothing", t, TRILLION, 0, 7, 3, 0, 0.0, 1);
        value("+ a hair", t, 0.0, 5, 7, 3, 0, HAIR, 1);
        value("+ less than half a hair", t, TRILLION, 0, 7, 3, 0, HAIR / 4, 1);
        value("+ a hair, below", t, 0.0, 5, 7, 5, 3, 0, -HAIR, 1);
        value("+ back from the edge", t, TRILLION - HAIR, 0, 7, 3, 0, -HAIR, 1);
        value("- minus a hair", t, 0.0, 5, 7, 3, 0, -HAIR, 2);
        value("- a hair, below", t, 0.0, 5, 7, 5, 3, 0, HAIR, 2);
        value("- nothing, below", t, -TRILLION, 0, 7, 5, 3, 0, 0.0, 2);
        value("* 1.0", t, TRILLION, 0, 7, 3, 0, 1.0, 3);
        value("* just more", t, 0.0, 5, 7, 3, 0, Math.nextUp(1.0), 3);
        value("* just more, below", t, 0.0, 5, 7, 3, 0, -Math.nextUp(1.0), 3);
        value("* just less", t, TRILLION * Math.nextDown(1.0), 0, 7, 3, 0, Math.nextDown(1.0), 3);
        value("/ 1.0", t, TRILLION, 0, 7, 3, 0, 1.0, 4);
        value("/ -1.0", t, -TRILLION, 0, 7, 3, 0, -1.0, 4);
        value("/ just less", t, 0.0, 5, 7, 3, 0, Math.nextDown(1.0), 4);
        value("/ just less, below", t, 0.0, 5, 7, 3, 0, -Math.nextDown(1.0), 4);
        value("the largest of all", t, 0.0, 5, 7, 3, 7, 3);
        value("goes on with 0.0", t, 6.0, 5, 7, 3, 7, 3, 0, 6.0, 1);
        value("steps that do not reckon", t, TRILLION, 0, 7, 3, 5, 6, 7, 8, 9);
    }

    private static void signs() {
        value("-a", 2.5, -2.5, 0, 5);
        value("-a of less", -2.5, 2.5, 0, 5);
        value("-a of the most", Made.MOST, -Made.MOST, 0, 5);
        value("above", 0.5, 0.5, 0, 6);
        value("just above", Double.MIN_VALUE, Double.MIN_VALUE, 0, 6);
        value("at 0.0", 0.0, 0.0, 0, 6);
        value("just below", -Double.MIN_VALUE, Double.MIN_VALUE, 0, 6);
        value("below", -0.5, 0.5, 0, 6);
        value("far below", -Made.MOST, Made.MOST, 0, 6);
        ShadeRows x = new ShadeRows();
        Made.text(x, 6);
        Check.same("0.0 is not below 0.0", 1.0 / x.value(1, 0.0), Double.POSITIVE_INFINITY);
    }

    private static void moves() {
        value("doubles", 3.0, 9.0, 0, 7, 3);
        value("exchanges", 3.0, 7.0, 0, 0, 10.0, 8, 2);
        value("without", 3.0, -7.0, 0, 0, 10.0, 2);
        value("exchanges the two on top alone", 3.0, 3.0, 0, 0, 10.0, 0, 20.0, 8, 9, 9);
        value("drops", 3.0, 3.0, 0, 0, 10.0, 9);
    }

    private static void less() {
        value("below", 2.0, 1.0, 0, 0, Math.nextUp(2.0), 10);
        value("the same", 2.0, 0.0, 0, 0, 2.0, 10);
        value("above", 2.0, 0.0, 0, 0, Math.nextDown(2.0), 10);
        value("0.0 and -0.0", -0.0, 0.0, 0, 0, 0.0, 10);
        value("-0.0 and the least", -0.0, 1.0, 0, 0, Double.MIN_VALUE, 10);
    }

    private static void chooses() {
        double[] other = {Double.MIN_VALUE, -Double.MIN_VALUE, 1.0, -1.0, Made.MOST};
        for (double t : other) {
            value("b at " + t, t, 20.0, 0, 0, 20.0, 0, 30.0, 11);
        }
        value("c at 0.0", 0.0, 30.0, 0, 0, 20.0, 0, 30.0, 11);
        value("c at -0.0", -0.0, 30.0, 0, 0, 20.0, 0, 30.0, 11);
    }

    private static void cuts() {
        double[] at = {-5.0, -Double.MIN_VALUE, 0.0, 0.25, 1.0, Math.nextUp(1.0), 5.0};
        double[] due = {0.0, 0.0, 0.0, 0.25, 1.0, 1.0, 1.0};
        for (int i = 0; i < at.length; i++) {
            value("cut at " + at[i], at[i], due[i], 0, 12);
        }
    }

    private static void roots() {
        value("of 16", 16.0, 4.0, 0, 13);
        value("of 0.0", 0.0, 0x1p-40, 0, 13);
        value("of -0.0", -0.0, 0x1p-40, 0, 13);
        value("of minus the least", -Double.MIN_VALUE, 0.0, 4, 13);
        value("of -1.0", -1.0, 0.0, 4, 13);
        value("of the least that is good", -Made.MOST, 0.0, 4, 13);
        value("goes on with 0.0", -1.0, 5.0, 4, 13, 0, 5.0, 1);
    }

    private static void onTop() {
        value("a - b", 10.0, 7.0, 0, 0, 3.0, 2);
        value("a / b", 10.0, 4.0, 0, 0, 2.5, 4);
        value("a < b", 1.0, 1.0, 0, 0, 2.0, 10);
        value("a < b, not", 2.0, 0.0, 0, 0, 1.0, 10);
    }

    private static int made(double... words) {
        return Made.text(new ShadeRows(), words);
    }

    private static void right() {
        Check.same("no step at all", made(), 1);
        Check.same("none left", made(9), 0);
        Check.same("none left, at the end", made(5, 9), 0);
        Check.same("two left", made(7), 0);
        Check.same("two left, by a number", made(0, 1.0), 0);
        Check.same("eight left", made(7, 7, 7, 7, 7, 7, 7), 0);
        Check.same("one left", made(9, 0, 1.0), 1);
        Check.same("too few in between", made(9, 9, 0, 1.0, 0, 1.0), 0);
        Check.same("too many in between",
                made(7, 7, 7, 7, 7, 7, 7, 7, 9, 9, 9, 9, 9, 9, 9, 9), 0);
        int[] ofNone = {5, 6, 7, 9, 12, 13};
        int[] ofOne = {1, 2, 3, 4, 8, 10};
        for (int op : ofNone) {
            Check.same("on none, step " + op, made(9, op, 0, 1.0, 9, 0, 1.0), 0);
        }
        for (int op : ofOne) {
            Check.same("on one, step " + op, made(op, 0, 1.0, 9), 0);
        }
        Check.same("on two, step 11", made(0, 1.0, 11, 0, 1.0, 9), 0);
        Check.same("on three, step 11", made(0, 1.0, 0, 1.0, 11), 1);
        Check.same("all 24 steps", made(7, 9, 7, 9, 7, 9, 7, 9, 7, 9, 7, 9, 7, 9, 7, 9, 7, 9, 7, 9,
                7, 9, 7, 9), 1);
    }
}
