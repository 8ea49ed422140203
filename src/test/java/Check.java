/** Counts the answers of a test that are not the ones that are due. */
final class Check {
    /** A call that may throw. */
    interface Call {
        Object run();
    }

    private static int calls = 0;
    private static int wrong = 0;

    private Check() {
    }

    static void same(String what, long got, long want) {
        calls++;
        if (got != want) {
            tell(what, got, want);
        }
    }

    static void same(String what, double got, double want) {
        calls++;
        if (got != want) {
            tell(what, got, want);
        }
    }

    static void isTrue(String what, boolean holds) {
        calls++;
        if (!holds) {
            tell(what, false, true);
        }
    }

    static void noSuch(String what, Call call) {
        throwing(what, java.util.NoSuchElementException.class, call);
    }

    static void badIndex(String what, Call call) {
        throwing(what, ArrayIndexOutOfBoundsException.class, call);
    }

    static void badArgument(String what, Call call) {
        throwing(what, IllegalArgumentException.class, call);
    }

    private static void throwing(String what, Class<?> kind, Call call) {
        calls++;
        Object answer;
        try {
            answer = call.run();
        } catch (RuntimeException e) {
            answer = e.getClass();
        }
        if (answer != kind) {
            tell(what, answer, kind);
        }
    }

    private static void tell(String what, Object got, Object want) {
        wrong++;
        if (wrong <= 40) {
            System.out.println(what + " answered " + got + ", due is " + want);
        }
    }

    static int wrongSoFar() {
        return wrong;
    }

    static void end(String name) {
        System.out.println(name + ": " + calls + " answers, " + wrong + " wrong");
        if (wrong != 0 || calls == 0) {
            System.exit(1);
        }
    }
}
