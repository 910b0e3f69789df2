/** What stands ahead of the promises of batches, samples, events, levels and states. */
public final class TermsOfTheMarketTest {
    public static void main(String[] args) throws IllegalAccessException {
        Sentences.run(TermsOfTheMarketTest.class);
    }

    @Sentence("Batches are numbered from 0, at most 40:")
    static void batchesAreNumberedFrom0AtMost40() {
        Conformary x = new Conformary();
        x.product(1);
        for (int batch = 0; batch < 40; batch++) {
            Check.is("placed and posted in turn", batch % 2 == 0 ? x.place(0, 1) : x.post(0, 2), batch);
        }
        Check.is("the last batch's units", x.batchOf(39, 1), 2);
        Check.is("the last batch is sampled", x.sample(39, 1, 0, 0), 2);
        Check.is("the last batch has an event", x.event(39, 3, 1), 6);
        Check.is("all are on the market", x.productOf(0, 6), 60);
        Check.is("the last batch is recalled", x.recall(0, 39, 39), 2);
        Check.is("the last batch anew", x.wantingAnew(39), 0);
        Check.state("a 41st batch is placed", Given::fullMarket, c -> c.place(0, 1));
        Check.state("a 41st batch comes by post", Given::fullMarket, c -> c.post(0, 1));
    }

    @Sentence("so many units of a product, of its version of that day,")
    static void aBatchIsOfItsVersionOfThatDay() {
        Conformary x = Given.market();
        Check.is("version 1, on day 3", x.batchOf(1, 3), 1);
        x.change(1, 3);
        x.post(1, 60);
        Check.is("the next one, the same day", x.batchOf(3, 3), 2);
        x.pass(1);
        x.change(1, 2);
        Check.is("the version stays", x.batchOf(3, 3), 2);
        Check.is("and the older one", x.batchOf(1, 3), 1);
        Check.is("units", x.batchOf(3, 1), 60);
        Check.is("its product", x.batchOf(3, 0), 1);
        Check.is("the other one's version", x.batchOf(0, 3), 0);
    }

    @Sentence("placed if nothing is wanting, or come by post, whatever is wanting;")
    static void placedIfNothingIsWantingPostedWhateverIs() {
        for (int lack = 0; lack <= 6; lack++) {
            Conformary x = Given.lacking(lack);
            Object due = lack == 0 ? Integer.valueOf(0) : "IllegalStateException";
            Check.is("placed while that is wanting: " + lack, Check.answer(x, c -> c.place(0, 1)), due);
            Check.is("by post while that is wanting: " + lack, x.post(0, 1), lack == 0 ? 1 : 0);
            Check.is("it is known of it", x.batchOf(lack == 0 ? 1 : 0, 4), lack);
        }
    }

    @Sentence("what was wanting when it came is known of it for good.")
    static void whatWasWantingIsKnownForGood() {
        for (int lack = 0; lack <= 6; lack++) {
            Conformary x = Given.lacking(lack);
            x.post(0, 1);
            x.change(0, 8);
            x.risk(0, 0, 9, lack == 2 ? 0 : 9);
            for (int state = 0; state < 5; state++) {
                x.ban(state, 0, lack != 1);
            }
            Check.is("on the same day, " + lack, x.batchOf(0, 4), lack);
            Given.atDay(x, 5000);
            Check.is("on the last day, " + lack, x.batchOf(0, 4), lack);
            x.recall(0, 0, 0);
            Check.is("recalled, " + lack, x.batchOf(0, 4), lack);
        }
    }

    @Sentence("A batch is ON the market, or RECALLED.")
    static void aBatchIsOnOrRecalled() {
        Conformary x = Given.market();
        Check.is("posted", x.batchOf(0, 5), 0);
        x.place(0, 1);
        Check.is("placed", x.batchOf(3, 5), 0);
        x.recall(0, 0, 0);
        Check.is("recalled", x.batchOf(0, 5), 1);
        Check.is("not those behind it", x.batchOf(2, 5), 0);
        x.recall(0, 3, 3);
        Check.is("placed and recalled", x.batchOf(3, 5), 1);
        Given.atDay(x, 5000);
        Check.is("for good", x.batchOf(0, 5), 1);
        Check.is("the other one is ON", x.batchOf(2, 5), 0);
    }

    @Sentence("A sample of a batch is measured against a limit with a doubt: FAILED, if it is above the limit even less the doubt,")
    static void aSampleFailsAboveTheLimitEvenLessTheDoubt() {
        Conformary x = Given.market();
        Check.is("at the limit less the doubt", x.sample(0, 110, 100, 10), 1);
        Check.is("1 above that", x.sample(0, 111, 100, 10), 2);
        Check.is("1 above, without doubt", x.sample(0, 101, 100, 0), 2);
        Check.is("1 above a limit of 0", x.sample(0, 1, 0, 0), 2);
        Check.is("the most, against 0 with the most doubt", x.sample(0, 100000, 0, 10000), 2);
        Check.is("as far above as the most doubt", x.sample(0, 100000, 90000, 10000), 1);
        Check.is("1 farther than that", x.sample(0, 100000, 89999, 10000), 2);
    }

    @Sentence("PASSED, if it is not above it even with the doubt,")
    static void aSamplePassesUpToTheLimitEvenWithTheDoubt() {
        Conformary x = Given.market();
        Check.is("at the limit with the doubt", x.sample(0, 90, 100, 10), 0);
        Check.is("1 above that", x.sample(0, 91, 100, 10), 1);
        Check.is("at the limit, without doubt", x.sample(0, 100, 100, 0), 0);
        Check.is("all 0", x.sample(0, 0, 0, 0), 0);
        Check.is("none against the most", x.sample(0, 0, 100000, 10000), 0);
        Check.is("the most, without doubt", x.sample(0, 100000, 100000, 0), 0);
        Check.is("none, at the doubt", x.sample(0, 0, 10000, 10000), 0);
        Check.is("none, 1 below the doubt", x.sample(0, 0, 9999, 10000), 1);
    }

    @Sentence("OPEN otherwise.")
    static void aSampleIsOpenOtherwise() {
        Conformary x = Given.market();
        Check.is("at the limit, with a doubt of 1", x.sample(0, 100, 100, 1), 1);
        Check.is("1 above, with a doubt of 1", x.sample(0, 101, 100, 1), 1);
        Check.is("2 above, with a doubt of 1", x.sample(0, 102, 100, 1), 2);
        Check.is("1 below, with a doubt of 1", x.sample(0, 99, 100, 1), 0);
        Check.is("less than the doubt", x.sample(0, 3, 0, 10), 1);
        Check.is("all the most", x.sample(0, 100000, 100000, 10000), 1);
    }

    @Sentence("Events of a batch harm some people, with a severity, 0 to 3.")
    static void eventsHarmSomePeopleWithASeverityOf0To3() {
        for (int severity = 0; severity <= 3; severity++) {
            Conformary x = Given.market();
            Check.is("severity " + severity, x.event(0, severity, 1), severity);
            Check.is("harmed", x.batchOf(0, 8), 1);
        }
        Check.argument("severity 4", Given::market, c -> c.event(0, 4, 1));
        Check.argument("severity -1", Given::market, c -> c.event(0, -1, 1));
    }

    @Sentence("Its level is the highest severity of its events,")
    static void theLevelIsTheHighestSeverity() {
        Conformary x = Given.market();
        Check.is("1", x.event(0, 1, 1), 1);
        Check.is("2 behind it", x.event(0, 2, 1), 2);
        Check.is("0 behind it", x.event(0, 0, 1), 2);
        Check.is("1 behind it", x.event(0, 1, 1), 2);
        Check.is("of another batch none", x.batchOf(1, 7), 0);
        Check.is("the level told of it", x.batchOf(0, 7), 2);
    }

    @Sentence("and 1 more if of 1000 units 10 or more people were harmed, all events together,")
    static void theLevelIs1MoreFor10Of1000() {
        Conformary x = Given.market();
        Check.is("9 of 1000", x.event(0, 1, 9), 1);
        Check.is("10 of 1000", x.event(0, 0, 1), 2);
        Check.is("49 of 1000", x.event(0, 0, 39), 2);
        Conformary y = Given.market();
        y.post(0, 10000);
        Check.is("99 of 10000", y.event(3, 2, 99), 2);
        Check.is("100 of 10000", y.event(3, 2, 1), 3);
        y.post(0, 100);
        Check.is("1 of 100", y.event(4, 0, 1), 1);
        y.post(0, 101);
        Check.is("1 of 101", y.event(5, 0, 1), 0);
    }

    @Sentence("2 more in place of that for 50 or more;")
    static void theLevelIs2MoreFor50Of1000() {
        Conformary x = Given.market();
        Check.is("49 of 1000", x.event(0, 1, 49), 2);
        Check.is("50 of 1000", x.event(0, 1, 1), 3);
        Check.is("1050 of 1000", x.event(0, 0, 1000), 3);
        Check.is("1 of 20", x.event(2, 0, 1), 2);
        Conformary y = Given.market();
        y.post(0, 21);
        Check.is("1 of 21", y.event(3, 0, 1), 1);
        y.post(0, 1);
        Check.is("1 of 1", y.event(4, 0, 1), 2);
        Check.is("1001 of 1", y.event(4, 0, 1000), 2);
    }

    @Sentence("2 more in place of that for 50 or more;")
    static void manyHarmedMakeNoWrapAround() {
        Conformary x = Given.market();
        x.post(0, 10000);
        int level = 0;
        for (int event = 0; event < 500; event++) {
            level = x.event(3, 0, 1000);
        }
        Check.is("500000 of 10000", level, 2);
        Check.is("harmed", x.batchOf(3, 8), 500000);
        Conformary y = Given.market();
        for (int event = 0; event < 500; event++) {
            level = y.event(1, 3, 1000);
            Check.is("event " + event, level, 5);
        }
    }

    @Sentence("and 1 more, if its latest sample FAILED;")
    static void theLevelIs1MoreIfTheLatestSampleFailed() {
        Conformary x = Given.market();
        x.event(0, 3, 50);
        Check.is("without a sample", x.batchOf(0, 7), 5);
        x.sample(0, 2, 1, 0);
        Check.is("FAILED", x.batchOf(0, 7), 6);
        x.sample(0, 2, 1, 0);
        Check.is("FAILED again", x.batchOf(0, 7), 6);
        x.sample(0, 2, 2, 1);
        Check.is("OPEN behind it", x.batchOf(0, 7), 5);
        x.sample(0, 2, 1, 0);
        x.sample(0, 1, 1, 0);
        Check.is("PASSED behind it", x.batchOf(0, 7), 5);
        x.sample(0, 2, 1, 0);
        Check.is("FAILED behind that", x.event(0, 0, 1), 6);
        Check.is("another batch's sample is none of it", x.event(1, 0, 1), 2);
    }

    @Sentence("0 without events and such a sample.")
    static void theLevelIs0WithoutEventsAndSuchASample() {
        Conformary x = Given.market();
        Check.is("neither", x.batchOf(0, 7), 0);
        x.sample(0, 1, 1, 0);
        Check.is("PASSED", x.batchOf(0, 7), 0);
        x.sample(0, 1, 1, 1);
        Check.is("OPEN", x.batchOf(0, 7), 0);
        x.sample(0, 2, 1, 0);
        Check.is("FAILED without events", x.batchOf(0, 7), 1);
        Check.is("an event of severity 0 without such a sample", x.event(1, 0, 1), 2);
        x.post(0, 10000);
        Check.is("an event of severity 0 that harms few", x.event(3, 0, 1), 0);
    }

    @Sentence("There are the states 0 to 4; each may be for a ban of a product, or not.")
    static void thereAreTheStates0To4() {
        Conformary x = Given.market();
        for (int state = 0; state <= 4; state++) {
            Check.is("state " + state, x.ban(state, 0, true), state + 1);
        }
        for (int state = 0; state <= 4; state++) {
            Check.is("not state " + state, x.ban(state, 0, false), 4 - state);
        }
        Check.numbersBelow("by state", Given::market, 5, state -> c -> c.ban(state, 0, true));
    }

    @Sentence("It is banned as long as 3 or more are for it.")
    static void bannedAsLongAs3OrMoreAreForIt() {
        Conformary x = Given.fine();
        for (int state = 0; state <= 4; state++) {
            x.ban(state, 0, true);
            Check.is(state + 1 + " for it", x.wanting(0), state < 2 ? 0 : 1);
        }
        for (int state = 0; state <= 4; state++) {
            x.ban(state, 0, false);
            Check.is(4 - state + " for it then", x.wanting(0), state < 2 ? 1 : 0);
        }
    }

    @Sentence("It is banned as long as 3 or more are for it.")
    static void anyThreeStatesBan() {
        for (int states = 0; states < 32; states++) {
            Conformary x = Given.fine();
            for (int state = 0; state <= 4; state++) {
                x.ban(state, 0, (states >> state & 1) == 1);
            }
            Check.is("the states " + states, x.wanting(0), Integer.bitCount(states) >= 3 ? 1 : 0);
            x.product(1);
            Check.is("another product, the states " + states, x.wanting(1), 0);
        }
    }

    @Sentence("It is banned as long as 3 or more are for it.")
    static void aBanGoesOnOverVersions() {
        Conformary x = Given.fine();
        Given.ban(x, 0);
        x.change(0, 1);
        Check.is("the next version", x.wanting(0), 1);
        Check.is("the states are for it still", x.ban(1, 0, false), 3);
        Given.atDay(x, 5000);
        Check.is("the last day", x.wanting(0), 1);
    }
}
