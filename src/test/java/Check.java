import java.util.function.IntFunction;
import java.util.function.Supplier;

/** Counts what the tests find, and tells whether a refused call left its object as it was. */
final class Check {
    /** A call of the class under test. */
    interface Call {
        Object on(Conformary x);
    }

    private static final String INDEX = "IndexOutOfBoundsException";
    private static final String ARGUMENT = "IllegalArgumentException";
    private static final String STATE = "IllegalStateException";

    /** Numbers that a mask, a shift or a sum could take for others: 0 to 7 behind a wrap-around. */
    private static final int[] FAR = {
        Integer.MIN_VALUE, Integer.MIN_VALUE + 1, -1 << 16, -256, -32, 1 << 16, 1 << 24, 1 << 30,
        Integer.MAX_VALUE - 1, Integer.MAX_VALUE};

    private static int wrong = 0;
    private static int right = 0;
    private static String test = "";

    private Check() {
    }

    /** The test that the next checks are part of. */
    static void begin(String name) {
        test = name + ": ";
    }

    static int count() {
        return wrong + right;
    }

    static void is(String what, Object got, Object due) {
        if (due.equals(got)) {
            right++;
        } else {
            wrong++;
            System.out.println(test + what + ": answered " + got + ", due is " + due);
        }
    }

    /** The answer of a call, or the very class that it throws: no subclass that the machine throws. */
    static Object answer(Conformary x, Call call) {
        try {
            return call.on(x);
        } catch (RuntimeException thrown) {
            return thrown.getClass().getSimpleName();
        }
    }

    static void index(String what, Supplier<Conformary> made, Call call) {
        refuses(what, INDEX, made, call);
    }

    static void argument(String what, Supplier<Conformary> made, Call call) {
        refuses(what, ARGUMENT, made, call);
    }

    static void state(String what, Supplier<Conformary> made, Call call) {
        refuses(what, STATE, made, call);
    }

    /** The call throws what is due, and an object with it behaves as one without it. */
    private static void refuses(String what, String due, Supplier<Conformary> made, Call call) {
        is(what, answer(made.get(), call), due);
        Supplier<Conformary> with = () -> {
            Conformary x = made.get();
            answer(x, call);
            return x;
        };
        is(what + " changes nothing", Probe.of(with), Probe.of(made));
    }

    /**
     * An argument is taken from the lowest to the highest value, and refused with an
     * IllegalArgumentException just beyond them and far from them.
     */
    static void range(String what, Supplier<Conformary> made, int lowest, int highest, IntFunction<Call> call) {
        is(what + " " + lowest + " is taken", isTaken(made.get(), call.apply(lowest)), true);
        is(what + " " + highest + " is taken", isTaken(made.get(), call.apply(highest)), true);
        argument(what + " " + (lowest - 1), made, call.apply(lowest - 1));
        argument(what + " " + (highest + 1), made, call.apply(highest + 1));
        for (int far : FAR) {
            if (far < lowest || far > highest) {
                is(what + " " + far, answer(made.get(), call.apply(far)), ARGUMENT);
            }
        }
    }

    /**
     * A number names what is there, from 0 to the last one: none in an object without any, two of
     * two, all of as many as there may be; any other is refused with an IndexOutOfBoundsException.
     */
    static void numbers(String what, int most, IntFunction<Call> call) {
        numbersBelow(what + " without any,", Conformary::new, 0, call);
        numbersBelow(what + " of two,", Given::twoOfEach, 2, call);
        numbersBelow(what + " of all,", Given::full, most, call);
        index(what + " of two, where there is room still,", Given::twoOfEach, call.apply(most - 1));
    }

    /** Of as many things as there are, those from 0 on are taken; any other number is refused. */
    static void numbersBelow(String what, Supplier<Conformary> made, int count, IntFunction<Call> call) {
        for (int number = 0; number < count; number++) {
            is(what + " " + number + " is there", INDEX.equals(answer(made.get(), call.apply(number))), false);
        }
        index(what + " " + count, made, call.apply(count));
        index(what + " -1", made, call.apply(-1));
        for (int far : FAR) {
            is(what + " " + far, answer(made.get(), call.apply(far)), INDEX);
        }
    }

    private static boolean isTaken(Conformary x, Call call) {
        return !(answer(x, call) instanceof String);
    }

    /** Ends the program as a test ends: exit code 1 if an answer was wrong. */
    static void end(String name) {
        System.out.println(name + ": " + right + " answers as due, " + wrong + " not");
        if (wrong != 0 || right == 0) {
            System.exit(1);
        }
    }
}
