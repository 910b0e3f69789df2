/** What stands ahead of the promises of products, their files, demands and ways. */
public final class TermsOfProductsTest {
    public static void main(String[] args) throws IllegalAccessException {
        Sentences.run(TermsOfProductsTest.class);
    }

    @Sentence("Products are numbered from 0, at most 10,")
    static void productsAreNumberedFrom0AtMost10() {
        Conformary x = Given.harmless();
        for (int product = 1; product < 10; product++) {
            Check.is("its number", x.product(product), product);
        }
        Check.is("the last product has a risk", x.risk(9, 7, 9, 3), 1);
        Check.is("the last product has a way", x.way(9), 2);
        Check.is("the last product has a proof", x.prove(9, 128), 128);
        Check.is("the last product is certified", x.certify(0, 9, 5), 5);
        Check.is("the last product is visited", x.visit(9, true), false);
        Check.is("the last product is declared", x.declare(9), 0);
        Check.is("the last product is placed", x.place(9, 7), 0);
        Check.is("the last product is on the market", x.productOf(9, 6), 7);
        Check.is("the last product is banned by one", x.ban(4, 9, true), 1);
        Check.is("the last product is recalled", x.recall(9, 0, 0), 7);
        Check.is("the first product has no risk", x.riskOf(0, 7, false), 0);
        Check.state("an 11th product", Given::full, c -> c.product(2));
    }

    @Sentence("each with functions and a version, 0 at first;")
    static void theVersionIs0AtFirst() {
        Conformary x = Given.harmless();
        x.product(255);
        Check.is("the first one's version", x.productOf(0, 1), 0);
        Check.is("the first one's functions", x.productOf(0, 0), 5);
        Check.is("the second one's functions", x.productOf(1, 0), 255);
        x.change(0, 6);
        Check.is("the first one's version then", x.productOf(0, 1), 1);
        Check.is("the second one's version", x.productOf(1, 1), 0);
        Check.is("a third one's", x.product(1) + x.productOf(2, 1), 2);
    }

    @Sentence("it has for each hazard a risk, 0 to 9, before and after measures, 0 at first, the one after at most that before.")
    static void theRisksAre0AtFirst() {
        Conformary x = Given.harmless();
        for (int hazard = 0; hazard < 8; hazard++) {
            Check.is("before, hazard " + hazard, x.riskOf(0, hazard, false), 0);
            Check.is("after, hazard " + hazard, x.riskOf(0, hazard, true), 0);
        }
    }

    @Sentence("it has for each hazard a risk, 0 to 9, before and after measures, 0 at first, the one after at most that before.")
    static void eachHazardHasARiskOf0To9BeforeAndAfter() {
        Conformary x = Given.harmless();
        for (int hazard = 0; hazard < 8; hazard++) {
            x.risk(0, hazard, 9 - hazard, (9 - hazard) / 2);
        }
        for (int hazard = 0; hazard < 8; hazard++) {
            Check.is("before, hazard " + hazard, x.riskOf(0, hazard, false), 9 - hazard);
            Check.is("after, hazard " + hazard, x.riskOf(0, hazard, true), (9 - hazard) / 2);
        }
        x.risk(0, 7, 9, 9);
        Check.is("the highest after", x.riskOf(0, 7, true), 9);
        x.risk(0, 7, 0, 0);
        Check.is("the lowest before", x.riskOf(0, 7, false), 0);
        Check.is("the lowest after", x.riskOf(0, 7, true), 0);
    }

    @Sentence("the one after at most that before.")
    static void theRiskAfterIsAtMostThatBefore() {
        for (int before = 0; before <= 9; before++) {
            int highest = before;
            Conformary x = Given.harmless();
            x.risk(0, 0, highest, highest);
            Check.is("after as high as before " + before, x.riskOf(0, 0, true), before);
            Check.argument("after 1 above before " + before, Given::harmless, c -> c.risk(0, 0, highest, highest + 1));
        }
        Conformary y = Given.harmless();
        y.risk(0, 0, 9, 8);
        Check.is("by the one before that is told, not the old one", Check.answer(y, c -> c.risk(0, 0, 5, 8)), "IllegalArgumentException");
        Check.is("lower both at once", y.risk(0, 0, 5, 5), 1);
    }

    @Sentence("If its functions are changed to others,")
    static void otherFunctionsAreTheNextVersion() {
        Conformary x = Given.fine();
        Check.is("the same functions", x.change(0, 5), 1);
        Check.is("nothing is wanting still", x.wanting(0), 0);
        Check.is("one more function", x.change(0, 7), 2);
        Check.is("one less", x.change(0, 5), 3);
        Check.is("one in place of another", x.change(0, 6), 4);
        Check.is("the same functions then", x.change(0, 6), 4);
    }

    @Sentence("or a risk, before or after, is told higher than it was, it is of the next version:")
    static void aHigherRiskIsTheNextVersion() {
        Conformary x = Given.harmless();
        Check.is("none as none was", x.risk(0, 0, 0, 0), 0);
        Check.is("before 1 higher", x.risk(0, 0, 1, 0), 1);
        Check.is("after 1 higher", x.risk(0, 0, 1, 1), 2);
        Check.is("the same", x.risk(0, 0, 1, 1), 2);
        Check.is("both higher are one version", x.risk(0, 0, 6, 4), 3);
        Check.is("before lower", x.risk(0, 0, 5, 4), 3);
        Check.is("after lower", x.risk(0, 0, 5, 3), 3);
        Check.is("both lower", x.risk(0, 0, 4, 2), 3);
        Check.is("before higher than it was last, not than ever", x.risk(0, 0, 5, 2), 4);
        Check.is("before higher, after lower", x.risk(0, 0, 6, 1), 5);
        Check.is("before lower, after higher", x.risk(0, 0, 5, 2), 6);
        Check.is("another hazard's was lower", x.risk(0, 7, 1, 0), 7);
        Check.is("to the highest", x.risk(0, 7, 9, 9), 8);
        Check.is("the highest again", x.risk(0, 7, 9, 9), 8);
    }

    @Sentence("its file is empty, and its certificate, visit and declaration are no more.")
    static void theNextVersionHasNothing() {
        checkEnded("by one more function", c -> c.change(0, 7));
        checkEnded("by one less function", c -> c.change(0, 1));
        checkEnded("by a risk before", c -> c.risk(0, 2, 8, 4));
        checkEnded("by a risk after", c -> c.risk(0, 2, 7, 5));
        checkEnded("by a risk that is not demanded", c -> c.risk(0, 0, 1, 0));
    }

    private static void checkEnded(String how, Check.Call call) {
        Conformary x = Given.fine();
        Check.is("the version then " + how, call.on(x), 2);
        Check.is("no body " + how, x.productOf(0, 2), -1);
        Check.is("no last day " + how, x.productOf(0, 3), -1);
        Check.is("no visit " + how, x.productOf(0, 4), -1);
        Check.is("no declaration " + how, x.productOf(0, 5), -1);
        Check.is("no demand kept " + how, x.demands(0, true), 0);
        Check.is("not followed " + how, x.follow(0, 0, 1), 0);
        Check.is("no proof " + how, x.prove(0, 1), 1);
        Check.is("no certificate to end " + how, x.visit(0, false), false);
    }

    @Sentence("its file is empty, and its certificate, visit and declaration are no more.")
    static void theNextVersionFollowsNoneOfTheStandards() {
        Conformary x = Given.harmless();
        for (int standard = 1; standard < 12; standard++) {
            x.standard(255, 0);
        }
        for (int standard = 0; standard < 12; standard++) {
            x.follow(0, standard, 255);
        }
        x.change(0, 1);
        for (int standard = 0; standard < 12; standard++) {
            Check.is("standard " + standard, x.follow(0, standard, 0), 0);
        }
    }

    @Sentence("its file is empty, and its certificate, visit and declaration are no more.")
    static void theSameVersionKeepsAll() {
        checkKept("by the same functions", c -> c.change(0, 5));
        checkKept("by the same risks", c -> c.risk(0, 2, 7, 4));
        checkKept("by a lower risk before", c -> c.risk(0, 2, 4, 4));
        checkKept("by a lower risk after", c -> c.risk(0, 2, 7, 0));
        checkKept("by no risk", c -> c.risk(0, 2, 0, 0));
    }

    private static void checkKept(String how, Check.Call call) {
        Conformary x = Given.fine();
        Check.is("the version then " + how, call.on(x), 1);
        int[] due = {5, 1, 0, 100, 0, 0};
        for (int what = 0; what < due.length; what++) {
            Check.is("the product's " + what + " " + how, x.productOf(0, what), due[what]);
        }
        Check.is("nothing is wanting " + how, x.wanting(0), 0);
        Check.is("followed " + how, x.follow(0, 0, 1), 4);
        Check.is("proofs " + how, x.prove(0, 1), 5);
    }

    @Sentence("its file is empty, and its certificate, visit and declaration are no more.")
    static void theNextVersionIsOfItsProductAlone() {
        Conformary x = Given.fine();
        x.product(5);
        x.risk(1, 2, 3, 3);
        x.prove(1, 4);
        x.declare(1);
        x.change(0, 1);
        Check.is("nothing is wanting to the other one", x.wanting(1), 0);
        Check.is("the risks stay", x.riskOf(0, 2, false), 7);
        Check.is("the risks after stay", x.riskOf(0, 2, true), 4);
    }

    @Sentence("A file follows standards, each in some hazards, and has own proofs for some.")
    static void aFileFollowsEachStandardInItsHazards() {
        Conformary x = Given.harmless();
        x.standard(255, 0);
        x.follow(0, 0, 6);
        x.follow(0, 1, 12);
        x.prove(0, 1);
        for (int hazard = 0; hazard < 8; hazard++) {
            Check.is("no risk yet", x.riskOf(0, hazard, false), 0);
        }
        Check.is("the first", x.follow(0, 0, 2), 6);
        Check.is("the second", x.follow(0, 1, 8), 12);
        Check.is("a proof more", x.prove(0, 128), 129);
        Conformary y = Given.harmless();
        for (int hazard = 0; hazard < 8; hazard++) {
            y.risk(0, hazard, 1, 1);
        }
        y.standard(255, 0);
        y.follow(0, 0, 2);
        y.follow(0, 1, 8);
        y.prove(0, 129);
        Check.is("kept by all of them", y.demands(0, true), 139);
    }

    @Sentence("The demands to a product are all demands of acts that apply, but those for hazards whose risk before is 0.")
    static void theDemandsAreAllOfActsThatApply() {
        Conformary x = new Conformary();
        x.act(1, 0, 3, 0);
        x.act(2, 0, 6, 0);
        x.act(4, 0, 255, 0);
        x.product(3);
        for (int hazard = 0; hazard < 8; hazard++) {
            x.risk(0, hazard, 1, 0);
        }
        Check.is("of both, together", x.demands(0, false), 7);
        x.special(1, 0);
        Check.is("of the special one alone", x.demands(0, false), 6);
        x.change(0, 8);
        Check.is("no act applies", x.demands(0, false), 0);
        x.change(0, 4);
        Check.is("all hazards", x.demands(0, false), 255);
    }

    @Sentence("but those for hazards whose risk before is 0.")
    static void thereIsNoDemandForARiskBeforeOf0() {
        Conformary x = Given.harmless();
        Check.is("no risks", x.demands(0, false), 0);
        x.risk(0, 4, 1, 0);
        Check.is("a risk of 1, by measures 0", x.demands(0, false), 16);
        x.risk(0, 4, 0, 0);
        Check.is("a risk of 0 again", x.demands(0, false), 0);
        for (int hazard = 0; hazard < 8; hazard++) {
            x.risk(0, hazard, 1, 0);
        }
        Check.is("all risks", x.demands(0, false), 255);
        x.risk(0, 7, 0, 0);
        Check.is("all but the last", x.demands(0, false), 127);
    }

    @Sentence("A demand is kept, if the risk after is at most 4,")
    static void aDemandIsKeptWithARiskAfterOfAtMost4() {
        for (int after = 0; after <= 9; after++) {
            Conformary x = Given.harmless();
            x.risk(0, 0, 9, after);
            x.prove(0, 1);
            Check.is("proved, risk after " + after, x.demands(0, true), after <= 4 ? 1 : 0);
            Check.is("a demand, risk after " + after, x.demands(0, false), 1);
            Conformary y = Given.harmless();
            y.risk(0, 0, 9, after);
            y.follow(0, 0, 1);
            Check.is("followed, risk after " + after, y.demands(0, true), after <= 4 ? 1 : 0);
        }
    }

    @Sentence("and the file has an own proof for it,")
    static void aDemandIsKeptByAnOwnProof() {
        Conformary x = Given.harmless();
        x.risk(0, 3, 1, 1);
        x.prove(0, 247);
        Check.is("proofs for all others", x.demands(0, true), 0);
        x.prove(0, 8);
        Check.is("a proof for it", x.demands(0, true), 8);
        x.withdraw(0, 0);
        x.restrict(0, 255);
        x.pass(1);
        Check.is("whatever becomes of standards", x.demands(0, true), 8);
    }

    @Sentence("or follows a standard in it that is listed that day and for that hazard.")
    static void aDemandIsKeptByAStandardInIt() {
        Conformary x = Given.harmless();
        x.risk(0, 3, 1, 1);
        Check.is("followed in none", x.demands(0, true), 0);
        x.follow(0, 0, 247);
        Check.is("followed in all others", x.demands(0, true), 0);
        x.follow(0, 0, 8);
        Check.is("followed in it", x.demands(0, true), 8);
        x.restrict(0, 247);
        Check.is("for it alone", x.demands(0, true), 8);
        x.restrict(0, 8);
        Check.is("for it no more", x.demands(0, true), 0);
        x.standard(8, 0);
        Check.is("another one, not followed", x.demands(0, true), 0);
        x.follow(0, 1, 8);
        Check.is("another one, followed", x.demands(0, true), 8);
        x.withdraw(1, 0);
        Check.is("the last day of that", x.demands(0, true), 8);
        x.pass(1);
        Check.is("listed no more", x.demands(0, true), 0);
    }

    @Sentence("The way of a product is by the highest risk before of its demands: DECLARED up to 3, TYPE for 4 to 6, QUALITY above,")
    static void theWayIsByTheHighestRiskBefore() {
        int[] due = {0, 0, 0, 0, 1, 1, 1, 2, 2, 2};
        for (int before = 0; before <= 9; before++) {
            for (int hazard = 0; hazard < 8; hazard++) {
                Conformary x = Given.harmless();
                x.risk(0, hazard, before, 0);
                Check.is("hazard " + hazard + ", before " + before, x.way(0), due[before]);
                x.risk(0, 7 - hazard, 1, 1);
                Check.is("and a low one, hazard " + hazard + ", before " + before, x.way(0), due[before]);
            }
        }
    }

    @Sentence("The way of a product is by the highest risk before of its demands:")
    static void theWayIsNotByTheRiskAfterNorByTheSum() {
        Conformary x = Given.harmless();
        for (int hazard = 0; hazard < 8; hazard++) {
            x.risk(0, hazard, 3, 3);
        }
        Check.is("all at 3", x.way(0), 0);
        x.risk(0, 4, 4, 0);
        Check.is("one at 4", x.way(0), 1);
        for (int hazard = 0; hazard < 8; hazard++) {
            x.risk(0, hazard, 6, 6);
        }
        Check.is("all at 6", x.way(0), 1);
        x.risk(0, 7, 7, 0);
        Check.is("one at 7", x.way(0), 2);
        x.risk(0, 7, 6, 0);
        Check.is("at 6 again", x.way(0), 1);
    }

    @Sentence("DECLARED without demands.")
    static void theWayWithoutDemandsIsDeclared() {
        Conformary x = new Conformary();
        x.product(1);
        Check.is("no risks and no act", x.way(0), 0);
        x.risk(0, 0, 9, 9);
        Check.is("no act", x.way(0), 0);
        x.act(2, 0, 255, 0);
        Check.is("an act that is not for it", x.way(0), 0);
        x.act(1, 0, 254, 0);
        Check.is("an act that does not demand it", x.way(0), 0);
        x.act(1, 0, 1, 2);
        x.pass(1);
        Check.is("an act that is not in force", x.way(0), 0);
        x.pass(1);
        Check.is("an act that is", x.way(0), 2);
    }
}
