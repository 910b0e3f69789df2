import java.util.function.Supplier;

/** Counts what the tests find, and tells whether a refused call left its object as it was. */
final class Check {
    /** A call of the class under test; a boolean answer counts 1 or 0. */
    interface Call {
        Object on(Conformary x);
    }

    private static int wrong = 0;
    private static int right = 0;

    private Check() {
    }

    static void is(String what, Object got, Object due) {
        if (due.equals(got)) {
            right++;
        } else {
            wrong++;
            System.out.println(what + ": answered " + got + ", due is " + due);
        }
    }

    /** The answer of a call, or the very class that it throws: no subclass that the machine throws. */
    static Object answer(Conformary x, Call call) {
        try {
            return call.on(x);
        } catch (RuntimeException thrown) {
            return thrown.getClass().getSimpleName();
        }
    }

    static void index(String what, Supplier<Conformary> made, Call call) {
        refuses(what, "IndexOutOfBoundsException", made, call);
    }

    static void argument(String what, Supplier<Conformary> made, Call call) {
        refuses(what, "IllegalArgumentException", made, call);
    }

    static void state(String what, Supplier<Conformary> made, Call call) {
        refuses(what, "IllegalStateException", made, call);
    }

    /** The call throws what is due, and an object with it behaves as one without it. */
    private static void refuses(String what, String due, Supplier<Conformary> made, Call call) {
        Conformary with = made.get();
        is(what, answer(with, call), due);
        is(what + " changes nothing", Probe.of(with), Probe.of(made.get()));
    }

    /** Ends the program as a test ends: exit code 1 if an answer was wrong. */
    static void end(String test) {
        System.out.println(test + ": " + right + " answers as due, " + wrong + " not");
        if (wrong != 0 || right == 0) {
            System.exit(1);
        }
    }
}
