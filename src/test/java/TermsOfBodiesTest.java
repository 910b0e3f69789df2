/** What stands ahead of the promises of bodies, certificates, visits, and of what is wanting. */
public final class TermsOfBodiesTest {
    public static void main(String[] args) throws IllegalAccessException {
        Sentences.run(TermsOfBodiesTest.class);
    }

    /** The product of Given.certified() with a certificate for so many days. */
    private static Conformary certifiedFor(int days) {
        Conformary x = Given.bodies();
        x.certify(0, 0, days);
        return x;
    }

    /** A product of the way QUALITY with a certificate for 1000 days, without a visit, on day 7. */
    private static Conformary unvisited() {
        Conformary x = Given.bodies();
        x.risk(0, 0, 7, 4);
        x.prove(0, 1);
        x.certify(0, 0, 1000);
        return x;
    }

    @Sentence("Bodies are numbered from 0, at most 5:")
    static void bodiesAreNumberedFrom0AtMost5() {
        Conformary x = Given.bodies();
        Check.is("its number", x.body(63), 4);
        Check.is("the last body gives certificates", x.certify(4, 0, 10), 17);
        Check.is("told so", x.productOf(0, 2), 4);
        Check.is("the last body hands one over", x.transfer(0, 3), 4);
        Check.is("the last body takes one over", x.transfer(0, 4), 3);
        Check.is("the last body is suspended", x.suspend(4, true), false);
        Conformary y = new Conformary();
        for (int body = 0; body < 5; body++) {
            Check.is("its number", y.body(1), body);
        }
        Check.state("a 6th body", Given::full, c -> c.body(1));
    }

    @Sentence("each has a scope of acts, and can be suspended, and taken up again.")
    static void eachBodyHasItsScopeAndItsSuspension() {
        Conformary x = Given.bodies();
        Check.is("one with the act", x.certify(0, 0, 1), 8);
        Check.is("one without it", Check.answer(x, c -> c.certify(1, 0, 1)), "IllegalStateException");
        Check.is("one that is suspended", Check.answer(x, c -> c.certify(2, 0, 1)), "IllegalStateException");
        Check.is("it was", x.suspend(2, false), true);
        Check.is("taken up again", x.certify(2, 0, 1), 8);
        Check.is("another one was never", x.suspend(3, false), false);
        for (int times = 0; times < 3; times++) {
            Check.is("suspended " + times, x.suspend(3, true), false);
            Check.is("taken up again " + times, x.suspend(3, false), true);
        }
    }

    @Sentence("A certificate is of a product and its version, from a body, up to a day.")
    static void aCertificateIsOfAVersion() {
        Conformary x = Given.certified();
        Check.is("its body", x.productOf(0, 2), 0);
        Check.is("its day", x.productOf(0, 3), 1007);
        x.product(1);
        Check.is("another product has none", x.productOf(1, 2), -1);
        x.change(0, 3);
        Check.is("the next version has none", x.productOf(0, 2), -1);
        x.change(0, 1);
        x.prove(0, 1);
        Check.is("nor has a later one with the same functions", x.wanting(0), 4);
    }

    @Sentence("It holds up to that day,")
    static void aCertificateHoldsUpToItsDay() {
        Conformary x = certifiedFor(10);
        Check.is("the day on which it is given", x.wanting(0), 6);
        x.pass(10);
        Check.is("its last day", x.wanting(0), 6);
        x.pass(1);
        Check.is("the day behind it", x.wanting(0), 4);
        Check.is("it is told of still", x.productOf(0, 3), 17);
        Conformary shortest = certifiedFor(1);
        shortest.pass(1);
        Check.is("the last day of the shortest", shortest.wanting(0), 6);
        shortest.pass(1);
        Check.is("the day behind that", shortest.wanting(0), 4);
        Conformary longest = Given.atDay(certifiedFor(1000), 1007);
        Check.is("the last day of the longest", longest.wanting(0), 6);
        longest.pass(1);
        Check.is("the day behind that one", longest.wanting(0), 4);
        Conformary late = Given.atDay(Given.bodies(), 4500);
        late.certify(0, 0, 1000);
        Given.atDay(late, 5000);
        Check.is("the last day of all", late.wanting(0), 6);
    }

    @Sentence("as long as the body's scope has all acts that apply to the product,")
    static void aCertificateHoldsForAllActsThatApply() {
        Conformary x = Given.certified();
        x.act(2, 0, 1, 0);
        Check.is("an act that is not for the product", x.wanting(0), 6);
        x.act(1, 0, 1, 9);
        x.pass(1);
        Check.is("the day ahead of an act's", x.wanting(0), 6);
        x.pass(1);
        Check.is("an act applies that is not in the scope", x.wanting(0), 4);
        x.special(0, 2);
        Check.is("it applies no more", x.wanting(0), 6);
        x.act(1, 0, 128, 0);
        Check.is("one that applies, but whose demand is none", x.wanting(0), 4);
        x.transfer(0, 3);
        Check.is("a scope with all acts", x.wanting(0), 6);
    }

    @Sentence("and the body is not suspended, or was so within the last 100 days (up to the day 100 behind that of the suspension).")
    static void aCertificateHoldsUpToDay100BehindTheSuspension() {
        Conformary x = Given.certified();
        x.suspend(0, true);
        Check.is("the day itself", x.wanting(0), 6);
        x.pass(99);
        Check.is("day 99 behind it", x.wanting(0), 6);
        x.pass(1);
        Check.is("day 100 behind it", x.wanting(0), 6);
        x.pass(1);
        Check.is("day 101 behind it", x.wanting(0), 4);
        Check.is("the certificate is told of still", x.productOf(0, 2), 0);
        x.suspend(0, false);
        Check.is("taken up again", x.wanting(0), 6);
        x.suspend(3, true);
        x.pass(101);
        Check.is("another body's suspension", x.wanting(0), 6);
    }

    @Sentence("or was so within the last 100 days (up to the day 100 behind that of the suspension).")
    static void aSuspensionOnTheFirstDayCountsFromThere() {
        Conformary x = new Conformary();
        x.act(1, 0, 1, 0);
        x.product(1);
        x.risk(0, 0, 4, 4);
        x.prove(0, 1);
        x.body(1);
        x.certify(0, 0, 1000);
        x.suspend(0, true);
        Check.is("the first day", x.wanting(0), 6);
        x.pass(100);
        Check.is("day 100", x.wanting(0), 6);
        x.pass(1);
        Check.is("day 101", x.wanting(0), 4);
    }

    @Sentence("A good visit counts up to the day 365 behind it;")
    static void aGoodVisitCountsUpToDay365BehindIt() {
        Conformary x = unvisited();
        Check.is("no visit", x.wanting(0), 5);
        x.visit(0, true);
        Check.is("the day itself", x.wanting(0), 6);
        x.pass(364);
        Check.is("day 364 behind it", x.wanting(0), 6);
        x.pass(1);
        Check.is("day 365 behind it", x.wanting(0), 6);
        x.pass(1);
        Check.is("day 366 behind it", x.wanting(0), 5);
        Check.is("it is told of still", x.productOf(0, 4), 7);
        x.visit(0, true);
        Check.is("a later one", x.wanting(0), 6);
    }

    @Sentence("A good visit counts up to the day 365 behind it;")
    static void aGoodVisitOnTheFirstDayCounts() {
        Conformary x = Given.lacking(5);
        x.certify(0, 0, 1000);
        x.visit(0, true);
        x.pass(365);
        Check.is("day 365", x.wanting(0), 6);
        x.pass(1);
        Check.is("day 366", x.wanting(0), 5);
    }

    @Sentence("A good visit counts up to the day 365 behind it;")
    static void aGoodVisitAheadOfTheCertificateCounts() {
        Conformary x = Given.lacking(4);
        x.visit(0, true);
        Check.is("no certificate yet", x.wanting(0), 4);
        x.pass(365);
        x.certify(0, 0, 10);
        Check.is("day 365 behind the visit", x.wanting(0), 6);
    }

    @Sentence("a bad one ends the certificate, and takes no good one away.")
    static void aBadVisitEndsTheCertificateAndTakesNoGoodOneAway() {
        Conformary x = unvisited();
        x.visit(0, true);
        x.pass(1);
        Check.is("a bad one", x.visit(0, false), true);
        Check.is("the certificate is no more", x.productOf(0, 2), -1);
        Check.is("nor its last day", x.productOf(0, 3), -1);
        Check.is("the good one stays", x.productOf(0, 4), 7);
        Check.is("the certificate is wanting", x.wanting(0), 4);
        x.certify(0, 0, 1000);
        Check.is("the good one counts still", x.wanting(0), 6);
        Conformary none = unvisited();
        none.visit(0, false);
        Check.is("a bad one is no visit that counts", none.productOf(0, 4), -1);
        none.certify(0, 0, 1000);
        Check.is("so it is wanting", none.wanting(0), 5);
    }

    @Sentence("To a product the first of these is wanting, 0 if none is:")
    static void theFirstOfAllIsWanting() {
        for (int lack = 0; lack <= 6; lack++) {
            Check.is("of those from " + lack + " on", Given.lacking(lack).wanting(0), lack);
        }
        Conformary x = Given.lacking(2);
        x.change(0, 6);
        Given.ban(x, 0);
        Check.is("all are: the ban", x.wanting(0), 1);
        x.ban(0, 0, false);
        Check.is("all others: the risk", x.wanting(0), 2);
        x.risk(0, 2, 7, 4);
        Check.is("all others: the demand", x.wanting(0), 3);
        x.prove(0, 4);
        Check.is("all others: the certificate", x.wanting(0), 4);
        x.certify(0, 0, 1);
        Check.is("all others: the visit", x.wanting(0), 5);
        x.visit(0, true);
        Check.is("the declaration alone", x.wanting(0), 6);
        x.declare(0);
        Check.is("none", x.wanting(0), 0);
    }

    @Sentence("1 it is banned;")
    static void aBanIsWantingWhateverElseIs() {
        for (int lack = 0; lack <= 6; lack++) {
            Conformary x = Given.lacking(lack);
            Given.ban(x, 0);
            Check.is("banned, and " + lack, x.wanting(0), 1);
        }
        Conformary free = new Conformary();
        free.product(1);
        Given.ban(free, 0);
        Check.is("without demands", free.wanting(0), 1);
    }

    @Sentence("2 a demand is there with a risk after above 4;")
    static void aRiskAfterAbove4IsWanting() {
        for (int after = 0; after <= 9; after++) {
            Conformary x = Given.harmless();
            x.risk(0, 6, 9, after);
            Check.is("risk after " + after, x.wanting(0), after > 4 ? 2 : 3);
        }
        Conformary free = new Conformary();
        free.act(1, 0, 254, 0);
        free.product(1);
        free.risk(0, 0, 9, 9);
        Check.is("a risk without a demand", free.wanting(0), 0);
    }

    @Sentence("3 a demand is not kept;")
    static void aDemandThatIsNotKeptIsWanting() {
        Conformary x = Given.harmless();
        for (int hazard = 0; hazard < 8; hazard++) {
            x.risk(0, hazard, 1, 1);
        }
        x.prove(0, 127);
        Check.is("one of eight", x.wanting(0), 3);
        x.prove(0, 128);
        Check.is("none of eight", x.wanting(0), 6);
    }

    @Sentence("4 the way is TYPE or QUALITY, and no certificate holds;")
    static void aCertificateIsWantingForTypeAndQuality() {
        for (int before = 1; before <= 9; before++) {
            Conformary x = Given.harmless();
            x.risk(0, 0, before, 0);
            x.prove(0, 1);
            Check.is("risk before " + before, x.wanting(0), before > 3 ? 4 : 6);
        }
        Conformary over = Given.lacking(5);
        over.pass(101);
        Check.is("one that is over", over.wanting(0), 4);
    }

    @Sentence("5 the way is QUALITY, and no visit counts;")
    static void aVisitIsWantingForQualityAlone() {
        for (int before = 4; before <= 9; before++) {
            Conformary x = Given.harmless();
            x.risk(0, 0, before, 0);
            x.prove(0, 1);
            x.certify(0, 0, 1);
            Check.is("risk before " + before, x.wanting(0), before > 6 ? 5 : 6);
        }
    }

    @Sentence("6 there is a demand, and it is not declared in this version.")
    static void theDeclarationIsWantingInThisVersion() {
        Conformary x = Given.harmless();
        Check.is("without demands", x.wanting(0), 0);
        x.declare(0);
        x.risk(0, 0, 1, 1);
        x.prove(0, 1);
        Check.is("declared in the version of then alone", x.wanting(0), 6);
        x.declare(0);
        Check.is("in this one", x.wanting(0), 0);
        Given.atDay(x, 5000);
        Check.is("without end", x.wanting(0), 0);
        x.risk(0, 0, 0, 0);
        Check.is("in the same version without demands", x.wanting(0), 0);
        Conformary early = Given.harmless();
        early.declare(0);
        early.act(255, 0, 1, 0);
        early.product(1);
        early.risk(1, 0, 1, 1);
        early.prove(1, 1);
        Check.is("declared of another product alone", early.wanting(1), 6);
    }

    @Sentence("6 there is a demand, and it is not declared in this version.")
    static void aDeclarationAheadOfTheDemandCounts() {
        Conformary x = new Conformary();
        x.act(1, 0, 1, 5);
        x.product(1);
        x.risk(0, 0, 1, 1);
        x.prove(0, 1);
        Check.is("no demand yet", x.wanting(0), 0);
        x.pass(4);
        Check.is("declared without a demand", x.declare(0), 4);
        x.pass(1);
        Check.is("the demand is there", x.demands(0, false), 1);
        Check.is("it is declared", x.wanting(0), 0);
    }
}
