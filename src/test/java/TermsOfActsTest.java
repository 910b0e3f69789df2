/** What stands ahead of the promises of functions, hazards, acts and standards. */
public final class TermsOfActsTest {
    public static void main(String[] args) throws IllegalAccessException {
        Sentences.run(TermsOfActsTest.class);
    }

    @Sentence("There are the functions 0 to 7, and the hazards 0 to 7.")
    static void thereAreTheFunctions0To7() {
        Conformary x = new Conformary();
        Check.is("the first one", x.product(1), 0);
        Check.is("the last one", x.product(128), 1);
        Check.is("all", x.product(255), 2);
        Check.argument("a function 8 of a product", Given::twoOfEach, c -> c.product(256));
        Check.argument("a function 8 of a change", Given::twoOfEach, c -> c.change(0, 256));
        Check.argument("a function 8 of a scope", Given::twoOfEach, c -> c.act(256, 0, 1, 0));
        Check.argument("a function 8 without which it is", Given::twoOfEach, c -> c.act(1, 256, 1, 0));
    }

    @Sentence("There are the functions 0 to 7, and the hazards 0 to 7.")
    static void thereAreTheHazards0To7() {
        Conformary x = new Conformary();
        x.act(1, 0, 255, 0);
        x.product(1);
        x.risk(0, 0, 1, 1);
        Check.is("the first one", x.demands(0, false), 1);
        x.risk(0, 7, 1, 1);
        Check.is("the last one too", x.demands(0, false), 129);
        Check.index("a risk of hazard 8", Given::twoOfEach, c -> c.risk(0, 8, 1, 1));
        Check.index("asked of hazard 8", Given::twoOfEach, c -> c.riskOf(0, 8, false));
        Check.argument("hazard 8 demanded", Given::twoOfEach, c -> c.act(1, 0, 256, 0));
        Check.argument("hazard 8 of a standard", Given::twoOfEach, c -> c.standard(256, 0));
        Check.argument("hazard 8 restricted", Given::twoOfEach, c -> c.restrict(0, 256));
        Check.argument("hazard 8 followed", Given::twoOfEach, c -> c.follow(0, 0, 256));
        Check.argument("hazard 8 proved", Given::twoOfEach, c -> c.prove(0, 256));
    }

    @Sentence("Acts are numbered from 0, at most 6:")
    static void actsAreNumberedFrom0AtMost6() {
        Conformary x = new Conformary();
        x.product(1);
        x.risk(0, 0, 1, 1);
        Check.is("without acts no demand", x.demands(0, false), 0);
        for (int act = 0; act < 6; act++) {
            Check.is("its number", x.act(act == 5 ? 1 : 2, 0, 1, 0), act);
        }
        Check.is("the last act is one as any other", x.applies(5, 0), true);
        Check.is("and demands", x.demands(0, false), 1);
        Check.is("and may be more special", x.special(5, 4), true);
        Check.is("and less special", x.special(0, 5), true);
        Check.state("a 7th act", Given::full, c -> c.act(2, 0, 1, 0));
    }

    @Sentence("each has a scope of functions, functions without which it is, demands for hazards, and a day from which it is in force.")
    static void eachActHasItsOwn() {
        Conformary x = new Conformary();
        x.act(1, 2, 4, 0);
        x.act(2, 4, 8, 3);
        x.product(1);
        x.product(2);
        x.product(6);
        for (int product = 0; product < 3; product++) {
            x.risk(product, 2, 1, 1);
            x.risk(product, 3, 1, 1);
        }
        x.pass(3);
        Check.is("the first by its scope", x.applies(0, 0), true);
        Check.is("the second by its scope", x.applies(1, 1), true);
        Check.is("not the first for the second's", x.applies(0, 1), false);
        Check.is("not the second for the first's", x.applies(1, 0), false);
        Check.is("not with what it is without", x.applies(1, 2), false);
        Check.is("the first one's demands", x.demands(0, false), 4);
        Check.is("the second one's demands", x.demands(1, false), 8);
        Check.is("no act's demands", x.demands(2, false), 0);
    }

    @Sentence("By itself an act is for a product, if it is in force,")
    static void anActIsForAProductFromTheDayOn() {
        Conformary x = new Conformary();
        x.act(1, 0, 1, 3);
        x.product(1);
        Check.is("3 days ahead", x.applies(0, 0), false);
        x.pass(2);
        Check.is("the day ahead", x.applies(0, 0), false);
        x.pass(1);
        Check.is("the day itself", x.applies(0, 0), true);
        Given.atDay(x, 5000);
        Check.is("up to the last day", x.applies(0, 0), true);
    }

    @Sentence("its scope has one of the product's functions,")
    static void anActIsForAProductByOneFunction() {
        Conformary x = new Conformary();
        x.act(6, 0, 1, 0);
        x.act(255, 0, 1, 0);
        int[] functions = {1, 2, 4, 6, 255, 249, 3};
        boolean[] due = {false, true, true, true, true, false, true};
        for (int product = 0; product < functions.length; product++) {
            x.product(functions[product]);
            Check.is("functions " + functions[product], x.applies(0, product), due[product]);
            Check.is("an act for all, functions " + functions[product], x.applies(1, product), true);
        }
        x.change(0, 2);
        Check.is("one that it has now", x.applies(0, 0), true);
        x.change(1, 8);
        Check.is("one that it has no more", x.applies(0, 1), false);
    }

    @Sentence("and the product has none of those without which it is.")
    static void anActIsNotForAProductWithOneWithoutWhichItIs() {
        Conformary x = new Conformary();
        x.act(3, 48, 1, 0);
        x.act(255, 255, 1, 0);
        x.act(3, 1, 1, 0);
        int[] functions = {1, 17, 33, 51, 3, 207, 255, 2};
        boolean[] due = {true, false, false, false, true, true, false, true};
        for (int product = 0; product < functions.length; product++) {
            x.product(functions[product]);
            Check.is("functions " + functions[product], x.applies(0, product), due[product]);
            Check.is("an act without all, functions " + functions[product], x.applies(1, product), false);
        }
        Check.is("of its own scope", x.applies(2, 0), false);
        Check.is("with another one of its scope too", x.applies(2, 4), false);
        Check.is("with another one of its scope alone", x.applies(2, 7), true);
    }

    @Sentence("It applies, if it is for the product by itself, and no act that is told, directly, to be more special than it is so, too.")
    static void anActAppliesIfNoMoreSpecialOneIsForTheProduct() {
        Conformary x = Given.threeActs();
        Check.is("ahead of that", x.applies(0, 0), true);
        x.special(2, 0);
        Check.is("the more special one is so, too", x.applies(0, 0), false);
        Check.is("that one applies", x.applies(2, 0), true);
        Check.is("the one that has nothing to do with it", x.applies(1, 0), true);
        x.risk(0, 0, 1, 1);
        x.risk(0, 1, 1, 1);
        Check.is("its demands are none", x.demands(0, false), 2);
    }

    @Sentence("and no act that is told, directly, to be more special than it is so, too.")
    static void anActThatIsMoreSpecialOverOthersAloneGoesNotAhead() {
        Conformary x = Given.chain();
        x.product(1);
        Check.is("all three for it: the first is behind the second", x.applies(0, 0), false);
        Check.is("the second is behind the third", x.applies(1, 0), false);
        Check.is("the third", x.applies(2, 0), true);
        Check.is("the second is not for it: the first applies", x.applies(0, 1), true);
        Check.is("and the third", x.applies(2, 1), true);
        Check.is("the second is not for it", x.applies(1, 1), false);
        x.special(2, 0);
        Check.is("told directly", x.applies(0, 1), false);
    }

    @Sentence("and no act that is told, directly, to be more special than it is so, too.")
    static void anActThatAppliesNotItselfGoesAheadStill() {
        Conformary x = Given.threeActs();
        x.product(1);
        x.special(1, 0);
        Check.is("for the product by itself", x.applies(0, 0), false);
        Check.is("not for the product", x.applies(0, 1), true);
        x.special(2, 1);
        Check.is("behind one that is behind a third one", x.applies(0, 0), false);
    }

    @Sentence("and no act that is told, directly, to be more special than it is so, too.")
    static void anActGoesAheadFromTheDayOnWhichItIsInForce() {
        Conformary x = new Conformary();
        x.act(1, 0, 1, 0);
        x.act(1, 0, 1, 5);
        x.product(1);
        x.special(1, 0);
        x.pass(4);
        Check.is("the day ahead", x.applies(0, 0), true);
        x.pass(1);
        Check.is("the day itself", x.applies(0, 0), false);
        Check.is("the special one", x.applies(1, 0), true);
    }

    @Sentence("and no act that is told, directly, to be more special than it is so, too.")
    static void oneOfFiveMoreSpecialActsIsEnough() {
        for (int ahead = 1; ahead < 6; ahead++) {
            Conformary x = new Conformary();
            for (int act = 0; act < 6; act++) {
                x.act(act == 0 || act == ahead ? 1 : 2, 0, 1, 0);
            }
            x.product(1);
            for (int act = 1; act < 6; act++) {
                x.special(act, 0);
            }
            Check.is("act " + ahead + " is for it", x.applies(0, 0), false);
            x.change(0, 2);
            Check.is("the others are, but it is not", x.applies(0, 0), false);
            Check.is("act " + ahead + " no more", x.applies(ahead, 0), false);
        }
    }

    @Sentence("Standards are numbered from 0, at most 12:")
    static void standardsAreNumberedFrom0AtMost12() {
        Conformary x = Given.followed(0);
        x.follow(0, 0, 0);
        for (int standard = 1; standard < 12; standard++) {
            Check.is("its number", x.standard(3, 0), standard);
        }
        Check.is("in none yet", x.follow(0, 11, 2), 0);
        Check.is("the last standard presumes as any other", x.demands(0, true), 2);
        Check.is("the last standard is restricted", x.restrict(11, 2), 1);
        Check.is("and presumes no more", x.demands(0, true), 0);
        Check.is("the last standard is withdrawn", x.withdraw(11, 0), -1);
        Check.state("a 13th standard", Given::full, c -> c.standard(1, 0));
    }

    @Sentence("each is for some hazards, and is listed from a day on")
    static void aStandardIsListedFromADayOn() {
        Conformary x = Given.followed(4);
        Check.is("at first", x.demands(0, true), 0);
        x.pass(3);
        Check.is("the day ahead", x.demands(0, true), 0);
        x.pass(1);
        Check.is("the day itself", x.demands(0, true), 3);
        Check.is("listed from the first day", Given.followed(0).demands(0, true), 3);
        Conformary late = Given.atDay(Given.followed(5000), 4999);
        Check.is("the day ahead of the last", late.demands(0, true), 0);
        late.pass(1);
        Check.is("the last day", late.demands(0, true), 3);
    }

    @Sentence("until a day, that included,")
    static void aStandardIsListedUntilADayThatIncluded() {
        Conformary x = Given.followed(0);
        x.withdraw(0, 5);
        x.pass(5);
        Check.is("the day itself", x.demands(0, true), 3);
        Check.is("nothing but the declaration is wanting", x.wanting(0), 6);
        x.pass(1);
        Check.is("the day behind it", x.demands(0, true), 0);
        Check.is("a demand is not kept", x.wanting(0), 3);
        Conformary one = Given.followed(4);
        one.withdraw(0, 4);
        one.pass(4);
        Check.is("listed on one day", one.demands(0, true), 3);
        one.pass(1);
        Check.is("on that alone", one.demands(0, true), 0);
        Conformary never = Given.followed(4);
        never.withdraw(0, 3);
        never.pass(3);
        Check.is("until a day ahead of that from which it is", never.demands(0, true), 0);
        never.pass(1);
        Check.is("it never is", never.demands(0, true), 0);
    }

    @Sentence("without end at first;")
    static void aStandardIsListedWithoutEndAtFirst() {
        Conformary x = Given.atDay(Given.followed(0), 5000);
        Check.is("on the last day", x.demands(0, true), 3);
        Check.is("told so", x.withdraw(0, 5000), -1);
        Check.is("up to the last day", x.demands(0, true), 3);
    }

    @Sentence("it can be restricted, by which it is for some hazards no more, from then on.")
    static void aStandardIsRestrictedFromThenOn() {
        Conformary x = Given.followed(0);
        x.declare(0);
        x.place(0, 1);
        x.restrict(0, 1);
        Check.is("no more in that hazard", x.demands(0, true), 2);
        Check.is("a demand is not kept", x.wanting(0), 3);
        Check.is("what was wanting ahead of that", x.batchOf(0, 4), 0);
        Check.is("and anew", x.wantingAnew(0), 0);
        Given.atDay(x, 5000);
        Check.is("on the last day still", x.demands(0, true), 2);
        x.restrict(0, 2);
        Check.is("for none", x.demands(0, true), 0);
    }
}
