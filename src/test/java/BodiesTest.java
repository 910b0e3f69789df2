/** Promises 13 to 17: bodies, certificates and visits. */
public final class BodiesTest {
    public static void main(String[] args) throws IllegalAccessException {
        Sentences.run(BodiesTest.class);
    }

    private static Conformary banned() {
        Conformary x = Given.certified();
        Given.ban(x, 0);
        return x;
    }

    private static Conformary risky() {
        Conformary x = Given.bodies();
        x.risk(0, 0, 6, 5);
        x.prove(0, 1);
        return x;
    }

    private static Conformary unproved() {
        Conformary x = Given.bodies();
        x.change(0, 3);
        return x;
    }

    /** A body on the first day, suspended then. */
    private static Conformary suspendedAtFirst() {
        Conformary x = Given.harmless();
        x.suspend(0, true);
        return x;
    }

    // ---- promise 13: body

    @Sentence(promise = 13, value = "Tells a body.")
    static void bodyTellsABody() {
        Conformary x = Given.harmless();
        x.body(63);
        Check.is("it gives certificates", x.certify(1, 0, 1), 1);
        Check.is("it is not suspended", x.suspend(1, true), false);
        Check.is("the same once more is another one", x.suspend(0, false), false);
    }

    @Sentence(promise = 13, value = "- `acts`: 1 to 63: its scope")
    static void bodyActsAre1To63() {
        Check.range("acts", Given::twoOfEach, 1, 63, acts -> c -> c.body(acts));
        Conformary x = Given.full();
        Check.is("the highest, for all six acts", x.certify(0, 0, 1), 1);
        Conformary y = Given.harmless();
        y.body(1);
        y.body(62);
        Check.is("the lowest, for act 0", y.certify(1, 0, 1), 1);
        Check.is("all but act 0", Check.answer(y, c -> c.certify(2, 0, 1)), "IllegalStateException");
    }

    @Sentence(promise = 13, value = "- `acts`: 1 to 63: its scope")
    static void bodyActsNeedNotBeThere() {
        Conformary x = new Conformary();
        Check.is("without acts", x.body(63), 0);
        Check.is("the last one alone", x.body(32), 1);
        x.product(1);
        for (int act = 0; act < 5; act++) {
            x.act(2, 0, 1, 0);
        }
        x.act(1, 0, 1, 0);
        Check.is("when it is there", x.certify(1, 0, 1), 1);
    }

    @Sentence(promise = 13, value = "Returns its number.")
    static void bodyReturnsItsNumber() {
        Conformary x = new Conformary();
        for (int body = 0; body < 5; body++) {
            Check.is("body " + body, x.body(63 - body), body);
        }
    }

    @Sentence(promise = 13, value = "Throws `IllegalArgumentException` if acts are out of range")
    static void bodyRefusesActsOutOfRange() {
        Check.argument("none", Given::bodies, c -> c.body(0));
        Check.argument("an act 6", Given::bodies, c -> c.body(64));
        Check.argument("as many as functions", Given::bodies, c -> c.body(255));
        Check.argument("a 6th for none", Given::full, c -> c.body(0));
        Check.argument("a 6th for an act 6", Given::full, c -> c.body(64));
    }

    @Sentence(promise = 13, value = "Throws `IllegalStateException` if there are 5")
    static void bodyRefusesASixth() {
        Conformary x = Given.bodies();
        Check.is("the 5th", x.body(1), 4);
        Check.is("the 6th", Check.answer(x, c -> c.body(1)), "IllegalStateException");
        x.suspend(0, true);
        Check.is("no place is free by a suspension", Check.answer(x, c -> c.body(1)), "IllegalStateException");
        Check.state("a 6th of all", Given::full, c -> c.body(62));
    }

    // ---- promise 14: suspend

    @Sentence(promise = 14, value = "Suspends a body from today on, or takes it up again.")
    static void suspendSuspendsFromTodayOn() {
        Conformary x = Given.certified();
        x.suspend(0, true);
        Check.is("gives none", Check.answer(x, c -> c.certify(0, 0, 1)), "IllegalStateException");
        x.pass(101);
        Check.is("its certificate holds no more", x.wanting(0), 4);
        Check.is("gives none later", Check.answer(x, c -> c.certify(0, 0, 1)), "IllegalStateException");
        x.suspend(0, false);
        Check.is("taken up again, it holds", x.wanting(0), 6);
        Check.is("and it gives one", x.certify(0, 0, 1), 109);
    }

    @Sentence(promise = 14, value = "- `body`: its number")
    static void suspendTakesEachNumber() {
        Check.numbers("body", 5, body -> c -> c.suspend(body, true));
        Check.numbers("body, taken up", 5, body -> c -> c.suspend(body, false));
        Conformary x = Given.full();
        x.suspend(4, true);
        Check.is("the one ahead of it", x.suspend(3, true), false);
        Check.is("the last one", x.suspend(4, true), true);
    }

    @Sentence(promise = 14, value = "- `is`: whether it is suspended then; if it was, it stays so from the day of then")
    static void suspendedAgainItStaysSoFromTheFirstDay() {
        Conformary x = Given.certified();
        x.suspend(0, true);
        x.pass(40);
        x.suspend(0, true);
        x.pass(60);
        Check.is("day 100 behind the first", x.wanting(0), 6);
        x.suspend(0, true);
        x.pass(1);
        Check.is("day 101 behind the first", x.wanting(0), 4);
        x.suspend(0, true);
        Check.is("once more, behind that", x.wanting(0), 4);
    }

    @Sentence(promise = 14, value = "- `is`: whether it is suspended then; if it was, it stays so from the day of then")
    static void suspendedOnTheFirstDayItStaysSoFromThere() {
        Conformary x = Given.lacking(4);
        x.certify(0, 0, 1000);
        x.visit(0, true);
        x.suspend(0, true);
        x.pass(50);
        Check.is("it was", x.suspend(0, true), true);
        x.pass(50);
        Check.is("day 100", x.wanting(0), 6);
        x.pass(1);
        Check.is("day 101", x.wanting(0), 4);
    }

    @Sentence(promise = 14, value = "- `is`: whether it is suspended then;")
    static void takenUpAndSuspendedAgainItIsSoFromTheNewDay() {
        Conformary x = Given.certified();
        x.suspend(0, true);
        x.pass(90);
        x.suspend(0, false);
        x.suspend(0, true);
        x.pass(100);
        Check.is("day 100 behind the second", x.wanting(0), 6);
        x.pass(1);
        Check.is("day 101 behind the second", x.wanting(0), 4);
        Check.is("not taken up by a refused call", Check.answer(x, c -> c.suspend(4, false)), "IndexOutOfBoundsException");
        Check.is("so it was", x.suspend(0, false), true);
    }

    @Sentence(promise = 14, value = "Returns whether it was suspended.")
    static void suspendReturnsWhetherItWas() {
        Conformary x = Given.bodies();
        Check.is("was not, is not", x.suspend(0, false), false);
        Check.is("was not, is", x.suspend(0, true), false);
        Check.is("was, is", x.suspend(0, true), true);
        Check.is("was, is not", x.suspend(0, false), true);
        Check.is("was not", x.suspend(0, false), false);
        Check.is("the other one was", x.suspend(2, true), true);
        Check.is("since the first day", suspendedAtFirst().suspend(0, false), true);
        Check.is("up to the last day", Given.atDay(suspendedAtFirst(), 5000).suspend(0, false), true);
    }

    @Sentence(promise = 14, value = "Throws `IndexOutOfBoundsException` if there is no such body")
    static void suspendRefusesNoSuchBody() {
        Check.index("none", Given::bodies, c -> c.suspend(4, true));
        Check.index("none, taken up", Given::bodies, c -> c.suspend(4, false));
        Check.index("-1", Given::bodies, c -> c.suspend(-1, true));
        Check.index("a 6th", Given::full, c -> c.suspend(5, true));
    }

    // ---- promise 15: certify

    @Sentence(promise = 15, value = "A body gives a certificate to a product, in place of one that it has.")
    static void certifyGivesACertificateInPlaceOfOne() {
        Conformary x = Given.bodies();
        x.certify(0, 0, 1000);
        Check.is("its body", x.productOf(0, 2), 0);
        Check.is("its last day", x.productOf(0, 3), 1007);
        x.certify(3, 0, 5);
        Check.is("from another one, shorter", x.productOf(0, 3), 12);
        Check.is("the body then", x.productOf(0, 2), 3);
        x.pass(6);
        Check.is("the one ahead of it is no more", x.wanting(0), 4);
        x.certify(3, 0, 5);
        Check.is("from the same one", x.productOf(0, 3), 18);
        x.visit(0, false);
        Check.is("there was one alone", x.visit(0, false), false);
    }

    @Sentence(promise = 15, value = "A body gives a certificate to a product, in place of one that it has.")
    static void certifyLeavesVisitAndDeclaration() {
        Conformary x = Given.fine();
        x.pass(1);
        x.certify(0, 0, 1000);
        Check.is("the visit", x.productOf(0, 4), 0);
        Check.is("the declaration", x.productOf(0, 5), 0);
        Check.is("the version", x.productOf(0, 1), 1);
        Check.is("nothing is wanting", x.wanting(0), 0);
    }

    @Sentence(promise = 15, value = {"- `body`: its number", "- `product`: its number"})
    static void certifyTakesEachNumber() {
        Check.numbers("body", 5, body -> c -> c.certify(body, 0, 1));
        Check.numbers("product", 10, product -> c -> c.certify(0, product, 1));
        Conformary x = Given.full();
        x.certify(4, 9, 3);
        Check.is("the last one from the last one", x.productOf(9, 2), 4);
        Check.is("the one ahead of it", x.productOf(8, 2), -1);
    }

    @Sentence(promise = 15, value = "- `days`: 1 to 1000 behind today")
    static void certifyDaysAre1To1000BehindToday() {
        Check.range("days", Given::bodies, 1, 1000, days -> c -> c.certify(0, 0, days));
        Check.range("days, on the first day", Given::full, 1, 1000, days -> c -> c.certify(0, 0, days));
        Check.is("the lowest", Given.bodies().certify(0, 0, 1), 8);
        Check.is("the highest", Given.bodies().certify(0, 0, 1000), 1007);
    }

    @Sentence(promise = 15, value = "Returns the last day.")
    static void certifyReturnsTheLastDay() {
        Check.is("on the first day", Given.full().certify(0, 0, 1), 1);
        Check.is("the longest, on the first day", Given.full().certify(0, 0, 1000), 1000);
        Conformary x = Given.atDay(Given.bodies(), 4000);
        Check.is("the last of all days", x.certify(0, 0, 1000), 5000);
        x.pass(1);
        Check.is("the day behind it", x.certify(0, 0, 1000), 5001);
        Given.atDay(x, 5000);
        Check.is("on the last day", x.certify(0, 0, 1), 5001);
        Check.is("the longest, on the last day", x.certify(0, 0, 1000), 6000);
        Check.is("told so", x.productOf(0, 3), 6000);
    }

    @Sentence(promise = 15, value = "Throws `IndexOutOfBoundsException` if there is no such body or product")
    static void certifyRefusesNoSuchBodyOrProduct() {
        Check.index("no body", Given::certified, c -> c.certify(4, 0, 1));
        Check.index("no product", Given::certified, c -> c.certify(0, 1, 1));
        Check.index("neither", Given::certified, c -> c.certify(-1, -1, 1));
        Check.index("no body, and no days", Given::certified, c -> c.certify(4, 0, 0));
        Check.index("no product, and too many days", Given::certified, c -> c.certify(0, 1, 1001));
        Check.index("no product, and the body is suspended", Given::certified, c -> c.certify(2, 1, 1));
        Check.index("no body, and the product is banned", BodiesTest::banned, c -> c.certify(4, 0, 1));
        Check.index("a 6th body", Given::full, c -> c.certify(5, 9, 1));
        Check.index("an 11th product", Given::full, c -> c.certify(4, 10, 1));
    }

    @Sentence(promise = 15, value = "Throws `IllegalArgumentException` if days are out of range")
    static void certifyRefusesDaysOutOfRange() {
        Check.argument("none", Given::certified, c -> c.certify(0, 0, 0));
        Check.argument("too many", Given::certified, c -> c.certify(0, 0, 1001));
        Check.argument("none, and the body is suspended", Given::certified, c -> c.certify(2, 0, 0));
        Check.argument("none, and the scope lacks an act", Given::certified, c -> c.certify(1, 0, 0));
        Check.argument("too many, and 1 is wanting", BodiesTest::banned, c -> c.certify(0, 0, 1001));
        Check.argument("too many, and 2 is wanting", BodiesTest::risky, c -> c.certify(0, 0, 1001));
        Check.argument("too many, and 3 is wanting", BodiesTest::unproved, c -> c.certify(0, 0, 1001));
    }

    @Sentence(promise = 15, value = "Throws `IllegalStateException` if the body is suspended,")
    static void certifyRefusesASuspendedBody() {
        Check.state("since today", Given::certified, c -> c.certify(2, 0, 1));
        Check.state("its own certificate's", BodiesTest::ownSuspended, c -> c.certify(0, 0, 1));
        Check.state("since the first day", BodiesTest::suspendedAtFirst, c -> c.certify(0, 0, 1));
        Check.state("for 100 days", () -> Given.atDay(suspendedAtFirst(), 100), c -> c.certify(0, 0, 1));
        Check.state("for 5000 days", () -> Given.atDay(suspendedAtFirst(), 5000), c -> c.certify(0, 0, 1));
        Conformary x = suspendedAtFirst();
        x.suspend(0, false);
        Check.is("taken up again", x.certify(0, 0, 1), 1);
    }

    private static Conformary ownSuspended() {
        Conformary x = Given.certified();
        x.suspend(0, true);
        return x;
    }

    @Sentence(promise = 15, value = "its scope lacks an act that applies,")
    static void certifyRefusesAScopeThatLacksAnAct() {
        Check.state("the only act", Given::certified, c -> c.certify(1, 0, 1));
        Conformary x = Given.bodies();
        x.act(1, 0, 128, 9);
        x.act(2, 0, 1, 0);
        Check.is("an act that is not in force, one that is not for it", x.certify(0, 0, 1), 8);
        x.pass(2);
        Check.is("an act whose demand is none applies", Check.answer(x, c -> c.certify(0, 0, 1)), "IllegalStateException");
        x.special(0, 1);
        Check.is("it applies no more", x.certify(0, 0, 1), 10);
        Conformary free = new Conformary();
        free.product(1);
        free.body(32);
        Check.is("without acts", free.certify(0, 0, 1), 1);
    }

    @Sentence(promise = 15, value = "or 1, 2 or 3 is wanting")
    static void certifyRefusesWhile1Or2Or3IsWanting() {
        for (int lack = 1; lack <= 3; lack++) {
            int wanting = lack;
            Check.state("while that is wanting: " + lack, () -> Given.lacking(wanting), c -> c.certify(0, 0, 1));
        }
        for (int lack = 4; lack <= 6; lack++) {
            Check.is("while that is wanting: " + lack, Given.lacking(lack).certify(0, 0, 1), 1);
        }
        Check.is("while nothing is wanting", Given.fine().certify(0, 0, 1), 1);
        Check.is("without demands", Given.harmless().certify(0, 0, 1), 1);
        Check.state("1, with a certificate", BodiesTest::banned, c -> c.certify(3, 0, 1));
    }

    // ---- promise 16: transfer

    @Sentence(promise = 16, value = "The certificate of a product goes over to another body; its last day stays.")
    static void transferLeavesTheLastDay() {
        Conformary x = Given.certified();
        x.pass(10);
        x.transfer(0, 3);
        Check.is("the body then", x.productOf(0, 2), 3);
        Check.is("the last day stays", x.productOf(0, 3), 1007);
        Given.atDay(x, 1007);
        Check.is("it holds on that", x.wanting(0), 6);
        x.pass(1);
        Check.is("and no longer", x.wanting(0), 4);
    }

    @Sentence(promise = 16, value = "The certificate of a product goes over to another body; its last day stays.")
    static void transferTakesOneThatHoldsNoMore() {
        Conformary x = Given.certified();
        x.suspend(0, true);
        x.pass(101);
        Check.is("it does not hold", x.wanting(0), 4);
        Check.is("from a suspended one", x.transfer(0, 3), 0);
        Check.is("it holds", x.wanting(0), 6);
        Conformary over = Given.bodies();
        over.certify(0, 0, 5);
        over.pass(6);
        Check.is("one that is over", over.transfer(0, 3), 0);
        Check.is("is over still", over.wanting(0), 4);
        Check.is("its last day stays", over.productOf(0, 3), 12);
        Check.is("of a banned product", banned().transfer(0, 3), 0);
    }

    @Sentence(promise = 16, value = {"- `product`: its number", "- `body`: its number"})
    static void transferTakesEachNumber() {
        Check.numbers("product", 10, product -> c -> c.transfer(product, 0));
        Check.numbers("body", 5, body -> c -> c.transfer(0, body));
        for (int body = 0; body < 4; body++) {
            Conformary x = Given.full();
            x.certify(4, 9, 3);
            Check.is("from the last to body " + body, x.transfer(9, body), 4);
            Check.is("and back, from body " + body, x.transfer(9, 4), body);
        }
    }

    @Sentence(promise = 16, value = "Returns from which body.")
    static void transferReturnsFromWhichBody() {
        Conformary x = Given.certified();
        Check.is("from body 0", x.transfer(0, 3), 0);
        Check.is("from body 3", x.transfer(0, 0), 3);
        Check.is("from body 0 again", x.transfer(0, 3), 0);
    }

    @Sentence(promise = 16, value = "Throws `IndexOutOfBoundsException` if there is no such product or body")
    static void transferRefusesNoSuchProductOrBody() {
        Check.index("no product", Given::certified, c -> c.transfer(1, 3));
        Check.index("no body", Given::certified, c -> c.transfer(0, 4));
        Check.index("neither", Given::certified, c -> c.transfer(-1, -1));
        Check.index("no body, and no certificate", Given::bodies, c -> c.transfer(0, 4));
        Check.index("no product, and the body is suspended", Given::certified, c -> c.transfer(1, 2));
        Check.index("an 11th product", Given::full, c -> c.transfer(10, 4));
        Check.index("a 6th body", Given::full, c -> c.transfer(9, 5));
    }

    @Sentence(promise = 16, value = "Throws `IllegalStateException` if it has no certificate, or has it from that body,")
    static void transferRefusesWithoutACertificateOfAnotherBody() {
        Check.state("no certificate", Given::bodies, c -> c.transfer(0, 3));
        Check.state("no certificate, to body 0", Given::bodies, c -> c.transfer(0, 0));
        Check.state("from that body", Given::certified, c -> c.transfer(0, 0));
        Conformary x = Given.certified();
        x.visit(0, false);
        Check.is("one that was ended", Check.answer(x, c -> c.transfer(0, 3)), "IllegalStateException");
        Conformary y = Given.certified();
        y.change(0, 3);
        Check.is("one of the version ahead", Check.answer(y, c -> c.transfer(0, 3)), "IllegalStateException");
        Conformary z = Given.certified();
        z.transfer(0, 3);
        Check.is("from that body by a transfer", Check.answer(z, c -> c.transfer(0, 3)), "IllegalStateException");
    }

    @Sentence(promise = 16, value = "the body is suspended, or its scope lacks an act that applies")
    static void transferRefusesASuspendedBodyAndALackingScope() {
        Check.state("suspended", Given::certified, c -> c.transfer(0, 2));
        Check.state("for 100 days", () -> Given.atDay(Given.certified(), 107), c -> c.transfer(0, 2));
        Check.state("its scope lacks the act", Given::certified, c -> c.transfer(0, 1));
        Conformary x = Given.certified();
        x.suspend(2, false);
        Check.is("taken up again", x.transfer(0, 2), 0);
        x.act(1, 0, 1, 8);
        Check.is("a second act, not in force", x.transfer(0, 0), 2);
        x.pass(1);
        x.transfer(0, 3);
        Check.is("a second act, in force", Check.answer(x, c -> c.transfer(0, 0)), "IllegalStateException");
    }

    // ---- promise 17: visit

    @Sentence(promise = 17, value = "The maker of a product is visited unannounced.")
    static void visitIsOfThatProduct() {
        Conformary x = Given.full();
        x.visit(3, true);
        Check.is("that one", x.productOf(3, 4), 0);
        Check.is("not another one", x.productOf(4, 4), -1);
        x.certify(0, 3, 1);
        x.certify(0, 4, 1);
        x.visit(3, false);
        Check.is("the other one's certificate", x.productOf(4, 2), 0);
    }

    @Sentence(promise = 17, value = "- `product`: its number")
    static void visitTakesEachNumber() {
        Check.numbers("product, good", 10, product -> c -> c.visit(product, true));
        Check.numbers("product, bad", 10, product -> c -> c.visit(product, false));
    }

    @Sentence(promise = 17, value = "- `isGood`: whether nothing is found")
    static void visitIsGoodOrBad() {
        Conformary x = Given.certified();
        x.visit(0, true);
        Check.is("a good one is told", x.productOf(0, 4), 7);
        Check.is("a good one leaves the certificate", x.productOf(0, 2), 0);
        x.pass(1);
        x.visit(0, false);
        Check.is("a bad one is not told", x.productOf(0, 4), 7);
        Check.is("a bad one ends the certificate", x.productOf(0, 2), -1);
    }

    @Sentence(promise = 17, value = "Returns whether a certificate, whether it holds or not, ends by that.")
    static void visitReturnsWhetherACertificateEnds() {
        Check.is("a good one, without", Given.bodies().visit(0, true), false);
        Check.is("a bad one, without", Given.bodies().visit(0, false), false);
        Check.is("a good one", Given.certified().visit(0, true), false);
        Conformary x = Given.certified();
        Check.is("a bad one", x.visit(0, false), true);
        Check.is("a second bad one", x.visit(0, false), false);
        Conformary over = Given.bodies();
        over.certify(0, 0, 1);
        over.pass(2);
        Check.is("one that is over", over.visit(0, false), true);
        Conformary suspended = Given.certified();
        suspended.suspend(0, true);
        suspended.pass(101);
        Check.is("one of a suspended body", suspended.visit(0, false), true);
        Conformary lacking = Given.certified();
        lacking.act(1, 0, 1, 0);
        Check.is("one of a scope that lacks an act", lacking.visit(0, false), true);
    }

    @Sentence(promise = 17, value = "Returns whether a certificate, whether it holds or not, ends by that.")
    static void aBadVisitEndsNothingElse() {
        Conformary x = Given.fine();
        x.visit(0, false);
        Check.is("the declaration stays", x.productOf(0, 5), 0);
        Check.is("the version stays", x.productOf(0, 1), 1);
        Check.is("the file stays", x.demands(0, true), 4);
        x.certify(0, 0, 1);
        Check.is("so the certificate alone was wanting", x.wanting(0), 0);
    }

    @Sentence(promise = 17, value = "Throws `IndexOutOfBoundsException` if there is no such product")
    static void visitRefusesNoSuchProduct() {
        Check.index("none, good", Given::certified, c -> c.visit(1, true));
        Check.index("none, bad", Given::certified, c -> c.visit(1, false));
        Check.index("-1", Given::certified, c -> c.visit(-1, false));
        Check.index("an 11th", Given::full, c -> c.visit(10, true));
    }
}
