/** Promises 7 to 12 and 27 to 31: products, their files and what is asked of them. */
public final class ProductsTest {
    public static void main(String[] args) throws IllegalAccessException {
        Sentences.run(ProductsTest.class);
    }

    /** A product on day 4, declared on day 2, certified on day 3 up to day 53 and visited on day 1. */
    private static Conformary ofManyDays() {
        Conformary x = Given.harmless();
        x.risk(0, 0, 7, 1);
        x.prove(0, 1);
        x.certify(0, 0, 100);
        x.pass(1);
        x.visit(0, true);
        x.pass(1);
        x.declare(0);
        x.pass(1);
        x.certify(0, 0, 50);
        x.pass(1);
        return x;
    }

    // ---- promise 7: product

    @Sentence(promise = 7, value = "Tells a product.")
    static void productTellsAProduct() {
        Conformary x = Given.harmless();
        x.product(5);
        Check.is("the same once more is another one", x.risk(1, 0, 1, 1), 1);
        Check.is("the first one is as it was", x.productOf(0, 1), 0);
        Check.is("acts apply to it", x.applies(0, 1), true);
    }

    @Sentence(promise = 7, value = "- `functions`: 1 to 255")
    static void productFunctionsAre1To255() {
        Check.range("functions", Given::twoOfEach, 1, 255, functions -> c -> c.product(functions));
        Conformary x = new Conformary();
        x.product(1);
        x.product(255);
        Check.is("the lowest", x.productOf(0, 0), 1);
        Check.is("the highest", x.productOf(1, 0), 255);
    }

    @Sentence(promise = 7, value = "Returns its number.")
    static void productReturnsItsNumber() {
        Conformary x = new Conformary();
        for (int product = 0; product < 10; product++) {
            Check.is("product " + product, x.product(255 - product), product);
        }
        for (int product = 0; product < 10; product++) {
            Check.is("functions of product " + product, x.productOf(product, 0), 255 - product);
        }
    }

    @Sentence(promise = 7, value = "Throws `IllegalArgumentException` if functions are out of range")
    static void productRefusesFunctionsOutOfRange() {
        Check.argument("none", Conformary::new, c -> c.product(0));
        Check.argument("too many", Conformary::new, c -> c.product(256));
        Check.argument("an 11th of none", Given::full, c -> c.product(0));
        Check.argument("an 11th of too many", Given::full, c -> c.product(256));
    }

    @Sentence(promise = 7, value = "Throws `IllegalStateException` if there are 10")
    static void productRefusesAnEleventh() {
        Conformary x = new Conformary();
        for (int product = 0; product < 9; product++) {
            x.product(1);
        }
        Check.is("the 10th", x.product(1), 9);
        Check.is("the 11th", Check.answer(x, c -> c.product(1)), "IllegalStateException");
        Check.is("the 11th once more", Check.answer(x, c -> c.product(255)), "IllegalStateException");
        Check.state("an 11th of all", Given::full, c -> c.product(2));
    }

    // ---- promise 8: change

    @Sentence(promise = 8, value = "Changes the functions of a product.")
    static void changeChangesTheFunctions() {
        Conformary x = Given.threeActs();
        x.change(0, 2);
        Check.is("told so", x.productOf(0, 0), 2);
        Check.is("an act no more", x.applies(0, 0), false);
        Check.is("an act still", x.applies(1, 0), true);
        x.change(0, 1);
        Check.is("the other act", x.applies(0, 0), true);
    }

    @Sentence(promise = 8, value = "- `product`: its number")
    static void changeTakesEachNumber() {
        Check.numbers("product", 10, product -> c -> c.change(product, 2));
        Conformary x = Given.full();
        x.change(9, 2);
        Check.is("the last one", x.productOf(9, 0), 2);
        Check.is("the one ahead of it", x.productOf(8, 0), 1);
    }

    @Sentence(promise = 8, value = "- `functions`: 1 to 255")
    static void changeFunctionsAre1To255() {
        Check.range("functions", Given::fine, 1, 255, functions -> c -> c.change(0, functions));
        Conformary x = Given.fine();
        Check.is("to the lowest", x.change(0, 1), 2);
        Check.is("told so", x.productOf(0, 0), 1);
        Check.is("to the highest", x.change(0, 255), 3);
        Check.is("told so then", x.productOf(0, 0), 255);
    }

    @Sentence(promise = 8, value = "Returns its version then.")
    static void changeReturnsItsVersionThen() {
        Conformary x = Given.harmless();
        Check.is("the same functions, version 0", x.change(0, 5), 0);
        Check.is("others", x.change(0, 1), 1);
        Check.is("the same then", x.change(0, 1), 1);
        Check.is("back", x.change(0, 5), 2);
    }

    @Sentence(promise = 8, value = "Throws `IndexOutOfBoundsException` if there is no such product")
    static void changeRefusesNoSuchProduct() {
        Check.index("none", Given::fine, c -> c.change(1, 1));
        Check.index("none, and no functions", Given::fine, c -> c.change(1, 0));
        Check.index("an 11th, and too many functions", Given::full, c -> c.change(10, 256));
    }

    @Sentence(promise = 8, value = "Throws `IllegalArgumentException` if functions are out of range")
    static void changeRefusesFunctionsOutOfRange() {
        Check.argument("none", Given::fine, c -> c.change(0, 0));
        Check.argument("too many", Given::fine, c -> c.change(0, 256));
        Check.argument("as they are, and one that is not there", Given::fine, c -> c.change(0, 256 + 5));
    }

    // ---- promise 9: risk

    @Sentence(promise = 9, value = "Tells the risk of a hazard.")
    static void riskTellsTheRiskOfAHazard() {
        Conformary x = Given.harmless();
        x.risk(0, 2, 5, 3);
        Check.is("before", x.riskOf(0, 2, false), 5);
        Check.is("after", x.riskOf(0, 2, true), 3);
        Check.is("of that hazard alone", x.riskOf(0, 1, false) + x.riskOf(0, 3, false), 0);
        x.risk(0, 2, 4, 4);
        Check.is("before then", x.riskOf(0, 2, false), 4);
        Check.is("after then", x.riskOf(0, 2, true), 4);
    }

    @Sentence(promise = 9, value = "- `product`: its number")
    static void riskTakesEachNumber() {
        Check.numbers("product", 10, product -> c -> c.risk(product, 0, 1, 1));
        Conformary x = Given.full();
        x.risk(9, 0, 3, 2);
        Check.is("the last one", x.riskOf(9, 0, false), 3);
        Check.is("the one ahead of it", x.riskOf(8, 0, false), 0);
    }

    @Sentence(promise = 9, value = "- `hazard`: 0 to 7")
    static void riskHazardIs0To7() {
        Check.numbersBelow("hazard", Given::fine, 8, hazard -> c -> c.risk(0, hazard, 1, 1));
        Conformary x = Given.harmless();
        x.risk(0, 7, 1, 1);
        Check.is("the last hazard", x.demands(0, false), 128);
        x.risk(0, 0, 1, 1);
        Check.is("the first hazard too", x.demands(0, false), 129);
    }

    @Sentence(promise = 9, value = "- `before`: 0 to 9")
    static void riskBeforeIs0To9() {
        Check.range("before", Given::fine, 0, 9, before -> c -> c.risk(0, 2, before, 0));
        Conformary x = Given.harmless();
        x.risk(0, 0, 9, 0);
        Check.is("the highest", x.riskOf(0, 0, false), 9);
        x.risk(0, 0, 0, 0);
        Check.is("the lowest", x.riskOf(0, 0, false), 0);
    }

    @Sentence(promise = 9, value = "- `after`: 0 to before")
    static void riskAfterIs0ToBefore() {
        for (int before = 0; before <= 9; before++) {
            int told = before;
            Check.range("before " + before + ", after", Given::fine, 0, before, after -> c -> c.risk(0, 2, told, after));
        }
    }

    @Sentence(promise = 9, value = "Returns the version of the product then.")
    static void riskReturnsTheVersionThen() {
        Conformary x = Given.harmless();
        Check.is("none, as none was", x.risk(0, 0, 0, 0), 0);
        Check.is("higher", x.risk(0, 0, 5, 3), 1);
        Check.is("the same", x.risk(0, 0, 5, 3), 1);
        Check.is("lower", x.risk(0, 0, 4, 2), 1);
        Check.is("higher than that", x.risk(0, 0, 5, 2), 2);
        Check.is("as the product tells", x.productOf(0, 1), 2);
    }

    @Sentence(promise = 9, value = "Throws `IndexOutOfBoundsException` if there is no such product or hazard")
    static void riskRefusesNoSuchProductOrHazard() {
        Check.index("no product", Given::fine, c -> c.risk(1, 0, 1, 1));
        Check.index("no hazard", Given::fine, c -> c.risk(0, 8, 1, 1));
        Check.index("neither", Given::fine, c -> c.risk(-1, -1, 1, 1));
        Check.index("no product, and all is out of range", Given::fine, c -> c.risk(1, 8, 10, -1));
        Check.index("no product, and before is out of range", Given::fine, c -> c.risk(1, 0, 10, 0));
        Check.index("no product, and after is out of range", Given::fine, c -> c.risk(1, 0, 1, 2));
        Check.index("no hazard, and before is out of range", Given::fine, c -> c.risk(0, 8, 10, 0));
        Check.index("no hazard, and after is out of range", Given::fine, c -> c.risk(0, 8, 1, 2));
    }

    @Sentence(promise = 9, value = "Throws `IllegalArgumentException` if before or after is out of range")
    static void riskRefusesBeforeOrAfterOutOfRange() {
        Check.argument("before", Given::fine, c -> c.risk(0, 2, 10, 0));
        Check.argument("after", Given::fine, c -> c.risk(0, 2, 9, 10));
        Check.argument("after, above before", Given::fine, c -> c.risk(0, 2, 8, 9));
        Check.argument("after, below 0", Given::fine, c -> c.risk(0, 2, 8, -1));
        Check.argument("both, and after is at most before", Given::fine, c -> c.risk(0, 2, 10, 10));
        Check.argument("both, below 0", Given::fine, c -> c.risk(0, 2, -1, -1));
    }

    // ---- promise 10: follow

    @Sentence(promise = 10, value = "Tells in which hazards the file of a product follows a standard.")
    static void followTellsTheHazardsAnew() {
        Conformary x = Given.harmless();
        x.risk(0, 0, 1, 1);
        x.risk(0, 1, 1, 1);
        x.follow(0, 0, 3);
        Check.is("in both", x.demands(0, true), 3);
        x.follow(0, 0, 2);
        Check.is("in one, in place of both", x.demands(0, true), 2);
        x.follow(0, 0, 0);
        Check.is("in none", x.demands(0, true), 0);
    }

    @Sentence(promise = 10, value = {"- `product`: its number", "- `standard`: its number"})
    static void followTakesEachNumber() {
        Check.numbers("product", 10, product -> c -> c.follow(product, 0, 1));
        Check.numbers("standard", 12, standard -> c -> c.follow(0, standard, 1));
        Conformary x = Given.full();
        for (int standard = 0; standard < 12; standard++) {
            x.follow(9, standard, 100 + standard);
        }
        for (int standard = 0; standard < 12; standard++) {
            Check.is("by the last one, standard " + standard, x.follow(9, standard, 0), 100 + standard);
            Check.is("by the one ahead of it, standard " + standard, x.follow(8, standard, 0), 0);
        }
    }

    @Sentence(promise = 10, value = "- `hazards`: 0 to 255")
    static void followHazardsAre0To255() {
        Check.range("hazards", Given::fine, 0, 255, hazards -> c -> c.follow(0, 0, hazards));
        Conformary x = Given.harmless();
        x.follow(0, 0, 255);
        Check.is("the highest", x.follow(0, 0, 0), 255);
        Check.is("the lowest", x.follow(0, 0, 1), 0);
    }

    @Sentence(promise = 10, value = "Returns in which it did.")
    static void followReturnsInWhichItDid() {
        Conformary x = Given.harmless();
        x.standard(1, 5);
        Check.is("in none at first", x.follow(0, 0, 6), 0);
        Check.is("in those", x.follow(0, 0, 8), 6);
        Check.is("in others then", x.follow(0, 0, 8), 8);
        Check.is("the other one in none", x.follow(0, 1, 4), 0);
        Check.is("that which it is not for, and is not listed", x.follow(0, 1, 0), 4);
        x.restrict(0, 255);
        Check.is("restricted meanwhile", x.follow(0, 0, 0), 8);
    }

    @Sentence(promise = 10, value = "Throws `IndexOutOfBoundsException` if there is no such product or standard")
    static void followRefusesNoSuchProductOrStandard() {
        Check.index("no product", Given::fine, c -> c.follow(1, 0, 1));
        Check.index("no standard", Given::fine, c -> c.follow(0, 1, 1));
        Check.index("neither", Given::fine, c -> c.follow(-1, -1, 1));
        Check.index("no product, and hazards out of range", Given::fine, c -> c.follow(1, 0, 256));
        Check.index("no standard, and hazards out of range", Given::fine, c -> c.follow(0, 1, -1));
        Check.index("a 13th standard", Given::full, c -> c.follow(9, 12, 1));
        Check.index("an 11th product", Given::full, c -> c.follow(10, 11, 1));
    }

    @Sentence(promise = 10, value = "Throws `IllegalArgumentException` if hazards are out of range")
    static void followRefusesHazardsOutOfRange() {
        Check.argument("too many", Given::fine, c -> c.follow(0, 0, 256));
        Check.argument("less than none", Given::fine, c -> c.follow(0, 0, -1));
    }

    // ---- promise 11: prove

    @Sentence(promise = 11, value = "Adds own proofs to the file of a product.")
    static void proveAddsProofs() {
        Conformary x = Given.harmless();
        x.risk(0, 0, 1, 1);
        x.risk(0, 7, 1, 1);
        x.prove(0, 1);
        Check.is("one", x.demands(0, true), 1);
        x.prove(0, 128);
        Check.is("and another one", x.demands(0, true), 129);
    }

    @Sentence(promise = 11, value = "- `product`: its number")
    static void proveTakesEachNumber() {
        Check.numbers("product", 10, product -> c -> c.prove(product, 1));
        Conformary x = Given.full();
        x.prove(9, 6);
        Check.is("the last one", x.prove(9, 1), 7);
        Check.is("the one ahead of it", x.prove(8, 1), 1);
    }

    @Sentence(promise = 11, value = "- `hazards`: 1 to 255")
    static void proveHazardsAre1To255() {
        Check.range("hazards", Given::fine, 1, 255, hazards -> c -> c.prove(0, hazards));
        Check.is("the lowest", Given.harmless().prove(0, 1), 1);
        Check.is("the highest", Given.harmless().prove(0, 255), 255);
    }

    @Sentence(promise = 11, value = "Returns all hazards with own proofs.")
    static void proveReturnsAllHazardsWithProofs() {
        Conformary x = Given.harmless();
        Check.is("one", x.prove(0, 4), 4);
        Check.is("more", x.prove(0, 3), 7);
        Check.is("again", x.prove(0, 1), 7);
        x.follow(0, 0, 128);
        Check.is("not those in which it follows a standard", x.prove(0, 8), 15);
        Check.is("all", x.prove(0, 255), 255);
        x.change(0, 1);
        Check.is("of the next version", x.prove(0, 8), 8);
    }

    @Sentence(promise = 11, value = "Throws `IndexOutOfBoundsException` if there is no such product")
    static void proveRefusesNoSuchProduct() {
        Check.index("none", Given::fine, c -> c.prove(1, 1));
        Check.index("none, and no hazards", Given::fine, c -> c.prove(1, 0));
        Check.index("an 11th, and too many hazards", Given::full, c -> c.prove(10, 256));
    }

    @Sentence(promise = 11, value = "Throws `IllegalArgumentException` if hazards are out of range")
    static void proveRefusesHazardsOutOfRange() {
        Check.argument("none", Given::fine, c -> c.prove(0, 0));
        Check.argument("too many", Given::fine, c -> c.prove(0, 256));
        Check.argument("less than none", Given::fine, c -> c.prove(0, -1));
    }

    // ---- promise 12: declare

    @Sentence(promise = 12, value = "Declares a product, in its version.")
    static void declareDeclaresInItsVersion() {
        Conformary x = Given.lacking(6);
        x.declare(0);
        Check.is("nothing is wanting", x.wanting(0), 0);
        x.risk(0, 7, 1, 1);
        x.risk(0, 7, 0, 0);
        Check.is("not in the next version", x.productOf(0, 5), -1);
    }

    @Sentence(promise = 12, value = "- `product`: its number")
    static void declareTakesEachNumber() {
        Check.numbers("product", 10, product -> c -> c.declare(product));
        Conformary x = Given.full();
        x.declare(9);
        Check.is("the last one", x.productOf(9, 5), 0);
        Check.is("the one ahead of it", x.productOf(8, 5), -1);
    }

    @Sentence(promise = 12, value = "Returns the day.")
    static void declareReturnsTheDay() {
        Conformary x = Given.harmless();
        Check.is("the first day", x.declare(0), 0);
        x.pass(3);
        Check.is("once more, while nothing is wanting", x.declare(0), 3);
        Check.is("the day of that", x.productOf(0, 5), 3);
        Given.atDay(x, 5000);
        Check.is("the last day", x.declare(0), 5000);
    }

    @Sentence(promise = 12, value = "Throws `IndexOutOfBoundsException` if there is no such product")
    static void declareRefusesNoSuchProduct() {
        Check.index("none", Given::fine, c -> c.declare(1));
        Check.index("-1", Given::fine, c -> c.declare(-1));
        Check.index("an 11th", Given::full, c -> c.declare(10));
    }

    @Sentence(promise = 12, value = "Throws `IllegalStateException` if something other than 6 is wanting")
    static void declareRefusesIfSomethingOtherThan6IsWanting() {
        for (int lack = 1; lack <= 5; lack++) {
            int wanting = lack;
            Check.state("while that is wanting: " + lack, () -> Given.lacking(wanting), c -> c.declare(0));
        }
        Check.is("while 6 is wanting", Given.lacking(6).declare(0), 0);
        Check.is("while nothing is wanting", Given.fine().declare(0), 0);
        Check.is("without demands", Given.harmless().declare(0), 0);
    }

    // ---- promise 27: demands

    @Sentence(promise = 27, value = "Returns the demands to a product today.")
    static void demandsReturnsThoseOfToday() {
        Conformary x = new Conformary();
        x.act(1, 0, 1, 0);
        x.act(1, 0, 2, 5);
        x.product(1);
        x.risk(0, 0, 1, 1);
        x.risk(0, 1, 1, 1);
        x.pass(4);
        Check.is("the day ahead", x.demands(0, false), 1);
        x.pass(1);
        Check.is("today", x.demands(0, false), 3);
        x.special(1, 0);
        Check.is("of the special one", x.demands(0, false), 2);
    }

    @Sentence(promise = 27, value = "- `product`: its number")
    static void demandsTakesEachNumber() {
        Check.numbers("product, all", 10, product -> c -> c.demands(product, false));
        Check.numbers("product, kept", 10, product -> c -> c.demands(product, true));
        Conformary x = Given.full();
        x.risk(9, 0, 1, 1);
        Check.is("the last one", x.demands(9, false), 1);
        Check.is("the one ahead of it", x.demands(8, false), 0);
    }

    @Sentence(promise = 27, value = "- `areKept`: whether those alone that are kept")
    static void demandsTellsThoseAloneThatAreKept() {
        Conformary x = Given.harmless();
        x.risk(0, 0, 9, 5);
        x.risk(0, 1, 9, 4);
        x.risk(0, 2, 9, 4);
        x.prove(0, 3);
        Check.is("all", x.demands(0, false), 7);
        Check.is("proved, with a risk after of 4 at most", x.demands(0, true), 2);
        x.prove(0, 255);
        Check.is("proofs for what is not demanded", x.demands(0, true), 6);
    }

    @Sentence(promise = 27, value = "Returns the hazards.")
    static void demandsReturnsNoneToAllHazards() {
        Conformary x = Given.harmless();
        Check.is("none", x.demands(0, false), 0);
        Check.is("none kept", x.demands(0, true), 0);
        for (int hazard = 0; hazard < 8; hazard++) {
            x.risk(0, hazard, 1, 0);
        }
        x.prove(0, 255);
        Check.is("all", x.demands(0, false), 255);
        Check.is("all kept", x.demands(0, true), 255);
    }

    @Sentence(promise = 27, value = "Throws `IndexOutOfBoundsException` if there is no such product")
    static void demandsRefusesNoSuchProduct() {
        Check.index("none", Given::fine, c -> c.demands(1, false));
        Check.index("none, kept", Given::fine, c -> c.demands(1, true));
        Check.index("an 11th", Given::full, c -> c.demands(10, true));
    }

    // ---- promise 28: way

    @Sentence(promise = 28, value = "Returns the way of a product today.")
    static void wayReturnsThatOfToday() {
        Conformary x = new Conformary();
        x.act(1, 0, 1, 5);
        x.product(1);
        x.risk(0, 0, 7, 0);
        x.pass(4);
        Check.is("the day ahead", x.way(0), 0);
        x.pass(1);
        Check.is("today", x.way(0), 2);
    }

    @Sentence(promise = 28, value = "- `product`: its number")
    static void wayTakesEachNumber() {
        Check.numbers("product", 10, product -> c -> c.way(product));
        Conformary x = Given.full();
        x.risk(9, 0, 4, 1);
        Check.is("the last one", x.way(9), 1);
        Check.is("the one ahead of it", x.way(8), 0);
    }

    @Sentence(promise = 28, value = "Returns DECLARED to QUALITY.")
    static void wayReturnsDeclaredToQuality() {
        int[] due = {
            Conformary.DECLARED, Conformary.DECLARED, Conformary.DECLARED, Conformary.DECLARED,
            Conformary.TYPE, Conformary.TYPE, Conformary.TYPE,
            Conformary.QUALITY, Conformary.QUALITY, Conformary.QUALITY};
        for (int before = 0; before <= 9; before++) {
            Conformary x = Given.harmless();
            x.risk(0, 5, before, 0);
            Check.is("by " + before, x.way(0), due[before]);
        }
    }

    @Sentence(promise = 28, value = "Throws `IndexOutOfBoundsException` if there is no such product")
    static void wayRefusesNoSuchProduct() {
        Check.index("none", Given::fine, c -> c.way(1));
        Check.index("-1", Given::fine, c -> c.way(-1));
        Check.index("an 11th", Given::full, c -> c.way(10));
    }

    // ---- promise 29: wanting

    @Sentence(promise = 29, value = "Returns what is wanting to a product today.")
    static void wantingReturnsThatOfToday() {
        Conformary x = Given.fine();
        Check.is("nothing", x.wanting(0), 0);
        x.pass(100);
        Check.is("on the last day of the certificate", x.wanting(0), 0);
        x.pass(1);
        Check.is("behind it", x.wanting(0), 4);
        x.certify(0, 0, 1000);
        Check.is("certified anew", x.wanting(0), 0);
        x.pass(264);
        Check.is("on the last day of the visit", x.wanting(0), 0);
        x.pass(1);
        Check.is("behind that", x.wanting(0), 5);
    }

    @Sentence(promise = 29, value = "- `product`: its number")
    static void wantingTakesEachNumber() {
        Check.numbers("product", 10, product -> c -> c.wanting(product));
        Conformary x = Given.full();
        x.risk(9, 0, 4, 1);
        Check.is("the last one", x.wanting(9), 3);
        Check.is("the one ahead of it", x.wanting(8), 0);
    }

    @Sentence(promise = 29, value = "Returns 0 to 6.")
    static void wantingReturns0To6() {
        for (int lack = 0; lack <= 6; lack++) {
            Check.is("" + lack, Given.lacking(lack).wanting(0), lack);
        }
    }

    @Sentence(promise = 29, value = "Throws `IndexOutOfBoundsException` if there is no such product")
    static void wantingRefusesNoSuchProduct() {
        Check.index("none", Given::fine, c -> c.wanting(1));
        Check.index("-1", Given::fine, c -> c.wanting(-1));
        Check.index("an 11th", Given::full, c -> c.wanting(10));
    }

    // ---- promise 30: productOf

    @Sentence(promise = 30, value = "Tells of a product.")
    static void productOfTellsOfAProduct() {
        int[] due = {5, 1, 0, 53, 1, 2, 0};
        Conformary x = ofManyDays();
        for (int what = 0; what <= 6; what++) {
            Check.is("what " + what, x.productOf(0, what), due[what]);
        }
        Check.is("asking changes nothing", x.productOf(0, 3), 53);
    }

    @Sentence(promise = 30, value = "- `product`: its number")
    static void productOfTakesEachNumber() {
        for (int what = 0; what <= 6; what++) {
            int asked = what;
            Check.numbers("what " + what + ", product", 10, product -> c -> c.productOf(product, asked));
        }
        Conformary x = Given.full();
        x.change(9, 7);
        Check.is("the last one", x.productOf(9, 0), 7);
        Check.is("the one ahead of it", x.productOf(8, 0), 1);
    }

    @Sentence(promise = 30, value = "- `what`: 0 its functions, 1 its version,")
    static void productOf0And1AreFunctionsAndVersion() {
        Check.range("what", Given::fine, 0, 6, what -> c -> c.productOf(0, what));
        Conformary x = Given.harmless();
        Check.is("functions", x.productOf(0, 0), 5);
        Check.is("version", x.productOf(0, 1), 0);
        x.change(0, 255);
        Check.is("functions then", x.productOf(0, 0), 255);
        Check.is("version then", x.productOf(0, 1), 1);
    }

    @Sentence(promise = 30, value = "2 the body of its certificate, NONE, 3 the last day of that, NONE,")
    static void productOf2And3AreTheCertificate() {
        Conformary x = Given.bodies();
        Check.is("no body", x.productOf(0, 2), -1);
        Check.is("no last day", x.productOf(0, 3), -1);
        x.certify(0, 0, 2);
        Check.is("the body", x.productOf(0, 2), 0);
        Check.is("the last day", x.productOf(0, 3), 9);
        x.transfer(0, 3);
        Check.is("the body it went over to", x.productOf(0, 2), 3);
        x.pass(3);
        Check.is("over, the body still", x.productOf(0, 2), 3);
        Check.is("over, the last day still", x.productOf(0, 3), 9);
        x.visit(0, false);
        Check.is("ended, no body", x.productOf(0, 2), -1);
        Check.is("ended, no last day", x.productOf(0, 3), -1);
    }

    @Sentence(promise = 30, value = "4 the day of the latest good visit, NONE,")
    static void productOf4IsTheLatestGoodVisit() {
        Conformary x = Given.harmless();
        Check.is("none", x.productOf(0, 4), -1);
        x.visit(0, false);
        Check.is("a bad one is none", x.productOf(0, 4), -1);
        x.visit(0, true);
        Check.is("on the first day", x.productOf(0, 4), 0);
        x.pass(3);
        x.visit(0, true);
        Check.is("the latest one", x.productOf(0, 4), 3);
        x.pass(1);
        x.visit(0, false);
        Check.is("the latest good one", x.productOf(0, 4), 3);
        Given.atDay(x, 5000);
        Check.is("when it counts no more", x.productOf(0, 4), 3);
    }

    @Sentence(promise = 30, value = "5 the day of its declaration, NONE,")
    static void productOf5IsTheDeclaration() {
        Conformary x = Given.harmless();
        Check.is("none", x.productOf(0, 5), -1);
        x.declare(0);
        Check.is("on the first day", x.productOf(0, 5), 0);
        x.pass(5);
        x.declare(0);
        Check.is("the later one", x.productOf(0, 5), 5);
        x.change(0, 1);
        Check.is("of the next version none", x.productOf(0, 5), -1);
    }

    @Sentence(promise = 30, value = "6 how many units are ON the market")
    static void productOf6IsTheUnitsOnTheMarket() {
        Conformary x = Given.market();
        Check.is("two batches", x.productOf(0, 6), 1020);
        Check.is("the other one", x.productOf(1, 6), 7);
        x.place(0, 3);
        Check.is("placed too", x.productOf(0, 6), 1023);
        x.change(0, 4);
        Check.is("of all versions", x.productOf(0, 6), 1023);
        x.recall(0, 0, 0);
        Check.is("not the recalled one", x.productOf(0, 6), 23);
        x.recall(0, 0, 3);
        Check.is("none", x.productOf(0, 6), 0);
        Conformary most = new Conformary();
        most.product(1);
        for (int batch = 0; batch < 40; batch++) {
            most.post(0, 10000);
        }
        Check.is("the most", most.productOf(0, 6), 400000);
    }

    @Sentence(promise = 30, value = "Throws `IndexOutOfBoundsException` if there is no such product")
    static void productOfRefusesNoSuchProduct() {
        Check.index("none", Given::fine, c -> c.productOf(1, 0));
        Check.index("none, and what is out of range", Given::fine, c -> c.productOf(1, 7));
        Check.index("an 11th, and what is out of range", Given::full, c -> c.productOf(10, -1));
    }

    @Sentence(promise = 30, value = "Throws `IllegalArgumentException` if what is out of range")
    static void productOfRefusesWhatOutOfRange() {
        Check.argument("7", Given::fine, c -> c.productOf(0, 7));
        Check.argument("-1", Given::fine, c -> c.productOf(0, -1));
        Check.argument("8, that is of batches", Given::full, c -> c.productOf(9, 8));
    }

    // ---- promise 31: riskOf

    @Sentence(promise = 31, value = "Returns a risk.")
    static void riskOfReturnsARisk() {
        Conformary x = Given.harmless();
        Check.is("none yet", x.riskOf(0, 0, false), 0);
        x.risk(0, 0, 9, 9);
        Check.is("the highest before", x.riskOf(0, 0, false), 9);
        Check.is("the highest after", x.riskOf(0, 0, true), 9);
        x.change(0, 1);
        Check.is("of the next version", x.riskOf(0, 0, true), 9);
    }

    @Sentence(promise = 31, value = "- `product`: its number")
    static void riskOfTakesEachNumber() {
        Check.numbers("product, before", 10, product -> c -> c.riskOf(product, 0, false));
        Check.numbers("product, after", 10, product -> c -> c.riskOf(product, 7, true));
    }

    @Sentence(promise = 31, value = "- `hazard`: 0 to 7")
    static void riskOfHazardIs0To7() {
        Check.numbersBelow("hazard, before", Given::fine, 8, hazard -> c -> c.riskOf(0, hazard, false));
        Check.numbersBelow("hazard, after", Given::fine, 8, hazard -> c -> c.riskOf(0, hazard, true));
    }

    @Sentence(promise = 31, value = "- `isAfter`: whether that after measures")
    static void riskOfTellsThatBeforeOrAfter() {
        Conformary x = Given.harmless();
        for (int hazard = 0; hazard < 8; hazard++) {
            x.risk(0, hazard, 9 - hazard, 1);
        }
        for (int hazard = 0; hazard < 8; hazard++) {
            Check.is("before " + hazard, x.riskOf(0, hazard, false), 9 - hazard);
            Check.is("after " + hazard, x.riskOf(0, hazard, true), 1);
        }
    }

    @Sentence(promise = 31, value = "Throws `IndexOutOfBoundsException` if there is no such product or hazard")
    static void riskOfRefusesNoSuchProductOrHazard() {
        Check.index("no product", Given::fine, c -> c.riskOf(1, 0, false));
        Check.index("no hazard", Given::fine, c -> c.riskOf(0, 8, false));
        Check.index("no hazard, after", Given::fine, c -> c.riskOf(0, -1, true));
        Check.index("neither", Given::fine, c -> c.riskOf(-1, 8, true));
        Check.index("an 11th", Given::full, c -> c.riskOf(10, 7, true));
    }
}
