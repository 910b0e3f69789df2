import java.util.function.BiConsumer;

/** What stands ahead of the promises of days, sets, divisions, exceptions and constants. */
public final class TermsTest {
    /**
     * Each call that may be refused, with arguments that are right: i is of a thing's number, a of
     * another argument, b of a boolean; a call that ends in S is refused in stuck() even so.
     */
    private static final String[] REFUSED = {
        "act a2 a0 a1 a0 S", "special i1 i0 S", "standard a1 a0 S", "withdraw i0 a5000", "restrict i0 a1",
        "product a2 S", "change i0 a1", "risk i0 i0 a1 a0", "follow i0 i0 a0", "prove i0 a1", "declare i0 S",
        "body a1 S", "suspend i0 b1", "certify i0 i0 a1 S", "transfer i0 i0 S", "visit i0 b0",
        "place i0 a1 S", "post i0 a1 S", "sample i0 a0 a0 a0", "event i0 a0 a1", "recall i0 i0 i0", "ban i0 i0 b1",
        "pass a1 S", "applies i0 i0", "demands i0 b0", "way i0", "wanting i0", "productOf i0 a0",
        "riskOf i0 i0 b0", "batchOf i0 a0", "wantingAnew i0"};

    private static final int[] WRONG = {-1, 1 << 30, Integer.MIN_VALUE};

    public static void main(String[] args) throws IllegalAccessException {
        Sentences.run(TermsTest.class);
    }

    /** All places are taken, product 0 is banned, act 0 is more special than act 1; it is the last day. */
    private static Conformary stuck() {
        Conformary x = Given.full();
        x.special(0, 1);
        Given.ban(x, 0);
        return Given.atDay(x, 5000);
    }

    @Sentence("An object is used for at most 512 calls after it has been made; what later calls answer is free.")
    static void the512thCallIsAnsweredAsAnyOther() {
        Conformary x = new Conformary();
        x.product(1);
        x.post(0, 10000);
        for (int call = 3; call <= 510; call++) {
            x.event(0, 0, 1000);
        }
        Check.is("the 511th call, after 508 events", x.batchOf(0, 8), 508000);
        Check.is("the 512th call", x.event(0, 3, 1000), 5);
        Conformary y = new Conformary();
        y.product(1);
        for (int call = 2; call <= 511; call++) {
            y.change(0, 2 - call % 2);
        }
        Check.is("the 512th call, after 510 changes", y.productOf(0, 1), 510);
    }

    @Sentence("Days are counted from 0, at most 5000.")
    static void daysAreCountedFrom0() {
        Check.is("the first day", new Conformary().day(), 0);
        Conformary x = new Conformary();
        x.product(1);
        x.post(0, 1);
        x.visit(0, true);
        Check.is("declared on the first day", x.declare(0), 0);
        Check.is("came on the first day", x.batchOf(0, 2), 0);
        Check.is("visited on the first day", x.productOf(0, 4), 0);
        Check.is("declared on it, as told of the product", x.productOf(0, 5), 0);
    }

    @Sentence("Days are counted from 0, at most 5000.")
    static void daysAreAtMost5000() {
        Conformary x = Given.atDay(Given.harmless(), 5000);
        Check.is("the last day", x.day(), 5000);
        x.post(0, 1);
        x.visit(0, true);
        Check.is("came on the last day", x.batchOf(0, 2), 5000);
        Check.is("visited on the last day", x.productOf(0, 4), 5000);
        Check.is("declared on the last day", x.declare(0), 5000);
        Check.is("certified on the last day, to one behind it", x.certify(0, 0, 1), 5001);
        Check.is("certified on the last day, as long as may be", x.certify(0, 0, 1000), 6000);
        Check.state("a day behind the last one", () -> Given.atDay(Given.harmless(), 5000), c -> c.pass(1));
    }

    @Sentence("Sets of acts, functions and hazards are told as bits.")
    static void functionsAreToldAsBits() {
        for (int function = 0; function < 8; function++) {
            Conformary x = new Conformary();
            x.act(1 << function, 0, 1, 0);
            x.act(255, 1 << function, 1, 0);
            x.product(1 << function);
            x.product(255 - (1 << function));
            String its = " function " + function;
            Check.is("an act for it, with" + its, x.applies(0, 0), true);
            Check.is("an act for it, with all but" + its, x.applies(0, 1), false);
            Check.is("an act without it, with" + its, x.applies(1, 0), false);
            Check.is("an act without it, with all but" + its, x.applies(1, 1), true);
        }
    }

    @Sentence("Sets of acts, functions and hazards are told as bits.")
    static void hazardsAreToldAsBits() {
        for (int hazard = 0; hazard < 8; hazard++) {
            int bit = 1 << hazard;
            Conformary x = new Conformary();
            x.act(1, 0, bit, 0);
            x.product(1);
            for (int each = 0; each < 8; each++) {
                x.risk(0, each, 1, 1);
            }
            Check.is("demanded, hazard " + hazard, x.demands(0, false), bit);
            x.prove(0, 255 - bit);
            Check.is("proofs for all but hazard " + hazard, x.demands(0, true), 0);
            x.prove(0, bit);
            Check.is("a proof for hazard " + hazard, x.demands(0, true), bit);
            Check.is("a standard for hazard " + hazard, x.standard(bit, 0), 0);
            Check.is("followed in hazard " + hazard, x.follow(0, 0, bit), 0);
            Check.is("told so, hazard " + hazard, x.follow(0, 0, 255), bit);
            Check.is("restricted in all but hazard " + hazard, x.restrict(0, 255 - bit), bit);
        }
    }

    @Sentence("Sets of acts, functions and hazards are told as bits.")
    static void actsAreToldAsBits() {
        for (int act = 0; act < 6; act++) {
            Conformary x = new Conformary();
            for (int each = 0; each < 6; each++) {
                x.act(each == act ? 1 : 2, 0, 1, 0);
            }
            x.product(1);
            x.body(1 << act);
            x.body(63 - (1 << act));
            Check.is("a body for act " + act, x.certify(0, 0, 1), 1);
            Check.is("a body for all but act " + act, Check.answer(x, c -> c.certify(1, 0, 1)), "IllegalStateException");
        }
    }

    @Sentence("All divisions are rounded down.")
    static void divisionsAreRoundedDown() {
        Check.is("9 of 1000 and 9 tenths", levelOf(101, 1), 0);
        Check.is("10 of 1000", levelOf(100, 1), 1);
        Check.is("10 of 1000 and a tenth", levelOf(99, 1), 1);
        Check.is("49 of 1000 and 9 tenths", levelOf(1001, 50), 1);
        Check.is("50 of 1000", levelOf(1000, 50), 2);
        Check.is("50 of 1000 and a tenth", levelOf(999, 50), 2);
        Check.is("9 of 1000 and 999 thousandths", levelOf(10000, 99), 0);
        Check.is("10 of 1000, the most units", levelOf(10000, 100), 1);
        Check.is("49 of 1000, the most units", levelOf(10000, 499), 1);
        Check.is("50 of 1000, the most units", levelOf(10000, 500), 2);
    }

    private static int levelOf(int units, int harmed) {
        Conformary x = new Conformary();
        x.product(1);
        x.post(0, units);
        return x.event(0, 0, harmed);
    }

    @Sentence("An IndexOutOfBoundsException is thrown if there is no such act, standard, product, hazard, body, batch or state,")
    static void noSuchThingIsAnIndexOutOfBounds() {
        eachRefused('i', (call, what) -> Check.index(what, TermsTest::stuck, call::on));
    }

    @Sentence("an IllegalArgumentException if another argument is out of range, an IllegalStateException as told.")
    static void anotherArgumentOutOfRangeIsAnIllegalArgument() {
        eachRefused('a', (call, what) -> Check.argument(what, TermsTest::stuck, call::on));
    }

    @Sentence("an IllegalStateException as told.")
    static void illegalStateIsThrownAsTold() {
        for (String line : REFUSED) {
            String[] told = line.split(" ");
            if (told[told.length - 1].equals("S")) {
                Calls call = rightCall(told);
                Check.state(call.toString(), TermsTest::stuck, call::on);
            }
        }
    }

    /** Each call with one argument of that kind wrong. */
    private static void eachRefused(char kind, BiConsumer<Calls, String> check) {
        for (String line : REFUSED) {
            String[] told = line.split(" ");
            Calls right = rightCall(told);
            for (int argument = 0; argument < right.with.length; argument++) {
                for (int wrong : WRONG) {
                    if (told[1 + argument].charAt(0) == kind) {
                        Calls call = with(right, argument, wrong);
                        check.accept(call, call.toString());
                    }
                }
            }
        }
    }

    private static Calls rightCall(String[] told) {
        int count = told.length - (told[told.length - 1].equals("S") ? 2 : 1);
        int[] with = new int[count];
        for (int argument = 0; argument < count; argument++) {
            with[argument] = Integer.parseInt(told[1 + argument].substring(1));
        }
        return new Calls(told[0], with);
    }

    private static Calls with(Calls call, int argument, int value) {
        int[] with = call.with.clone();
        with[argument] = value;
        return new Calls(call.name, with);
    }

    @Sentence("If several exceptions of a throws clause apply, the one that is listed first is thrown.")
    static void ofSeveralExceptionsTheFirstIsThrown() {
        Conformary x = stuck();
        for (String line : REFUSED) {
            String[] told = line.split(" ");
            combine(x, told, rightCall(told), 0, "");
        }
    }

    /** From that argument on, each is tried right and wrong, together with what is wrong ahead of it. */
    private static void combine(Conformary x, String[] told, Calls call, int argument, String kinds) {
        if (argument < call.with.length) {
            char kind = told[1 + argument].charAt(0);
            combine(x, told, call, argument + 1, kinds);
            for (int wrong = 0; kind != 'b' && wrong < 2; wrong++) {
                combine(x, told, with(call, argument, WRONG[wrong]), argument + 1, kinds + kind);
            }
        } else if (kinds.contains("i")) {
            Check.is(call.toString(), call.on(x), "IndexOutOfBoundsException");
        } else if (kinds.contains("a")) {
            Check.is(call.toString(), call.on(x), "IllegalArgumentException");
        } else if (told[told.length - 1].equals("S")) {
            Check.is(call.toString(), call.on(x), "IllegalStateException");
        }
    }

    @Sentence("A call of a method that throws an exception changes nothing.")
    static void refusedCallsChangeNothing() {
        Conformary x = Given.fine();
        x.place(0, 50);
        for (int call = 0; call < 60; call++) {
            String[] told = REFUSED[call % REFUSED.length].split(" ");
            Calls right = rightCall(told);
            int argument = call % right.with.length;
            if (told[1 + argument].charAt(0) != 'b') {
                with(right, argument, WRONG[call % WRONG.length]).on(x);
            }
        }
        Check.is("nothing is wanting still", x.wanting(0), 0);
        int[] due = {5, 1, 0, 100, 0, 0, 50};
        for (int what = 0; what < due.length; what++) {
            Check.is("the product's " + what, x.productOf(0, what), due[what]);
        }
        Check.is("the next batch", x.post(0, 1), 1);
        Check.is("the next product", x.product(1), 1);
        Check.is("the day", x.day(), 0);
    }

    @Sentence("`NONE = -1`: There is none.")
    static void noneIsAnsweredWhereThereIsNone() {
        Conformary x = Given.harmless();
        x.post(0, 1);
        Check.is("NONE", Conformary.NONE, -1);
        Check.is("without end", x.withdraw(0, 0), Conformary.NONE);
        for (int what = 2; what <= 5; what++) {
            Check.is("a new product's " + what, x.productOf(0, what), Conformary.NONE);
        }
        Check.is("a new batch's sample", x.batchOf(0, 6), Conformary.NONE);
    }

    @Sentence("`DECLARED = 0, TYPE = 1, QUALITY = 2`: Ways.")
    static void theWaysAreNumbers() {
        Conformary x = Given.harmless();
        Check.is("0", x.way(0), Conformary.DECLARED);
        x.risk(0, 0, 4, 0);
        Check.is("1", x.way(0), Conformary.TYPE);
        x.risk(0, 0, 7, 0);
        Check.is("2", x.way(0), Conformary.QUALITY);
        Check.is("as numbers", "" + Conformary.DECLARED + Conformary.TYPE + Conformary.QUALITY, "012");
    }

    @Sentence("`ON = 0, RECALLED = 1`: Batches.")
    static void theStandingOfBatchesIsANumber() {
        Conformary x = Given.market();
        Check.is("ON", x.batchOf(0, 5), Conformary.ON);
        x.recall(0, 0, 0);
        Check.is("RECALLED", x.batchOf(0, 5), Conformary.RECALLED);
        Check.is("as numbers", "" + Conformary.ON + Conformary.RECALLED, "01");
    }

    @Sentence("`PASSED = 0, OPEN = 1, FAILED = 2`: Samples.")
    static void theSamplesAreNumbers() {
        Conformary x = Given.market();
        Check.is("PASSED", x.sample(0, 1, 5, 1), Conformary.PASSED);
        Check.is("OPEN", x.sample(0, 5, 5, 1), Conformary.OPEN);
        Check.is("FAILED", x.sample(0, 9, 5, 1), Conformary.FAILED);
        Check.is("as numbers", "" + Conformary.PASSED + Conformary.OPEN + Conformary.FAILED, "012");
    }
}
