/** Promises 18 to 25, 32 and 33: batches, samples, events, recalls, bans and days. */
public final class MarketTest {
    public static void main(String[] args) throws IllegalAccessException {
        Sentences.run(MarketTest.class);
    }

    private static Conformary bannedMarket() {
        Conformary x = Given.market();
        Given.ban(x, 0);
        return x;
    }

    private static Conformary fullAndBanned() {
        Conformary x = Given.fullMarket();
        Given.ban(x, 0);
        return x;
    }

    // ---- promise 18: place

    @Sentence(promise = 18, value = "Places a batch.")
    static void placePlacesABatch() {
        Conformary x = Given.fine();
        x.pass(2);
        x.place(0, 30);
        int[] due = {0, 30, 2, 1, 0, 0, -1, 0, 0};
        for (int what = 0; what < due.length; what++) {
            Check.is("its " + what, x.batchOf(0, what), due[what]);
        }
        Check.is("on the market", x.productOf(0, 6), 30);
    }

    @Sentence(promise = 18, value = "- `product`: its number")
    static void placeTakesEachNumber() {
        Check.numbers("product", 10, product -> c -> c.place(product, 1));
        for (int product = 0; product < 10; product++) {
            Conformary x = new Conformary();
            for (int each = 0; each < 10; each++) {
                x.product(1);
            }
            x.place(product, 1);
            Check.is("told so", x.batchOf(0, 0), product);
        }
    }

    @Sentence(promise = 18, value = "- `units`: 1 to 10000")
    static void placeUnitsAre1To10000() {
        Check.range("units", Given::market, 1, 10000, units -> c -> c.place(0, units));
        Conformary x = Given.fine();
        x.place(0, 1);
        x.place(0, 10000);
        Check.is("the lowest", x.batchOf(0, 1), 1);
        Check.is("the highest", x.batchOf(1, 1), 10000);
    }

    @Sentence(promise = 18, value = "Returns its number.")
    static void placeReturnsItsNumber() {
        Conformary x = new Conformary();
        x.product(1);
        x.product(1);
        for (int batch = 0; batch < 40; batch++) {
            Check.is("batch " + batch, x.place(batch % 2, 1), batch);
        }
    }

    @Sentence(promise = 18, value = "Throws `IndexOutOfBoundsException` if there is no such product")
    static void placeRefusesNoSuchProduct() {
        Check.index("none", Given::market, c -> c.place(2, 1));
        Check.index("none, and no units", Given::market, c -> c.place(2, 0));
        Check.index("none, and there are 40 batches", Given::fullMarket, c -> c.place(2, 1));
        Check.index("-1, and too many units", Given::market, c -> c.place(-1, 10001));
        Check.index("an 11th", Given::full, c -> c.place(10, 1));
    }

    @Sentence(promise = 18, value = "Throws `IllegalArgumentException` if units are out of range")
    static void placeRefusesUnitsOutOfRange() {
        Check.argument("none", Given::market, c -> c.place(0, 0));
        Check.argument("too many", Given::market, c -> c.place(0, 10001));
        Check.argument("none, and 3 is wanting", Given::market, c -> c.place(1, 0));
        Check.argument("too many, and 1 is wanting", MarketTest::bannedMarket, c -> c.place(0, 10001));
        Check.argument("none, and there are 40 batches", Given::fullMarket, c -> c.place(0, 0));
    }

    @Sentence(promise = 18, value = "Throws `IllegalStateException` if something is wanting,")
    static void placeRefusesIfSomethingIsWanting() {
        for (int lack = 1; lack <= 6; lack++) {
            int wanting = lack;
            Check.state("while that is wanting: " + lack, () -> Given.lacking(wanting), c -> c.place(0, 1));
        }
        Check.is("while nothing is wanting", Given.fine().place(0, 1), 0);
        Check.is("without demands and not declared", Given.harmless().place(0, 1), 0);
    }

    @Sentence(promise = 18, value = "or there are 40 batches")
    static void placeRefusesA41stBatch() {
        Conformary x = new Conformary();
        x.product(1);
        for (int batch = 0; batch < 39; batch++) {
            x.place(0, 1);
        }
        Check.is("the 40th", x.place(0, 1), 39);
        Check.is("the 41st", Check.answer(x, c -> c.place(0, 1)), "IllegalStateException");
        x.recall(0, 0, 39);
        Check.is("no place is free by a recall", Check.answer(x, c -> c.place(0, 1)), "IllegalStateException");
        Check.state("of all", Given::fullMarket, c -> c.place(0, 1));
        Check.state("and something is wanting", MarketTest::fullAndBanned, c -> c.place(0, 1));
    }

    // ---- promise 19: post

    @Sentence(promise = 19, value = "A batch comes by post.")
    static void postBringsABatch() {
        Conformary x = Given.lacking(4);
        x.pass(2);
        x.post(0, 30);
        int[] due = {0, 30, 2, 1, 4, 0, -1, 0, 0};
        for (int what = 0; what < due.length; what++) {
            Check.is("its " + what, x.batchOf(0, what), due[what]);
        }
        Check.is("on the market", x.productOf(0, 6), 30);
    }

    @Sentence(promise = 19, value = "- `product`: its number")
    static void postTakesEachNumber() {
        Check.numbers("product", 10, product -> c -> c.post(product, 1));
        Conformary x = Given.full();
        for (int batch = 0; batch < 40; batch++) {
            Check.is("told so", x.batchOf(batch, 0), batch % 10);
        }
    }

    @Sentence(promise = 19, value = "- `units`: 1 to 10000")
    static void postUnitsAre1To10000() {
        Check.range("units", Given::market, 1, 10000, units -> c -> c.post(1, units));
        Conformary x = Given.lacking(3);
        x.post(0, 1);
        x.post(0, 10000);
        Check.is("the lowest", x.batchOf(0, 1), 1);
        Check.is("the highest", x.batchOf(1, 1), 10000);
    }

    @Sentence(promise = 19, value = "Returns its number.")
    static void postReturnsItsNumber() {
        Conformary x = Given.lacking(3);
        for (int batch = 0; batch < 40; batch++) {
            Check.is("batch " + batch, x.post(0, 1), batch);
        }
    }

    @Sentence(promise = 19, value = "Throws `IndexOutOfBoundsException` if there is no such product")
    static void postRefusesNoSuchProduct() {
        Check.index("none", Given::market, c -> c.post(2, 1));
        Check.index("none, and no units", Given::market, c -> c.post(2, 0));
        Check.index("none, and there are 40 batches", Given::fullMarket, c -> c.post(2, 1));
        Check.index("an 11th, and too many units", Given::full, c -> c.post(10, 10001));
    }

    @Sentence(promise = 19, value = "Throws `IllegalArgumentException` if units are out of range")
    static void postRefusesUnitsOutOfRange() {
        Check.argument("none", Given::market, c -> c.post(0, 0));
        Check.argument("too many", Given::market, c -> c.post(1, 10001));
        Check.argument("none, and there are 40 batches", Given::fullMarket, c -> c.post(0, 0));
        Check.argument("too many, and there are 40 batches", Given::fullMarket, c -> c.post(0, 10001));
    }

    @Sentence(promise = 19, value = "Throws `IllegalStateException` if there are 40 batches")
    static void postRefusesA41stBatch() {
        Conformary x = Given.lacking(3);
        for (int batch = 0; batch < 39; batch++) {
            x.post(0, 1);
        }
        Check.is("the 40th", x.post(0, 1), 39);
        Check.is("the 41st", Check.answer(x, c -> c.post(0, 1)), "IllegalStateException");
        x.recall(0, 0, 39);
        Check.is("no place is free by a recall", Check.answer(x, c -> c.post(0, 1)), "IllegalStateException");
        Check.state("of all", Given::fullMarket, c -> c.post(0, 1));
        Check.is("whatever else is wanting", Given.lacking(1).post(0, 1), 0);
    }

    // ---- promise 20: sample

    @Sentence(promise = 20, value = "Tells a sample of a batch.")
    static void sampleTellsTheLatestOfThatBatch() {
        Conformary x = Given.market();
        x.sample(0, 9, 1, 0);
        Check.is("of that one", x.batchOf(0, 6), 2);
        Check.is("not of another one", x.batchOf(1, 6), -1);
        x.sample(0, 1, 9, 0);
        Check.is("the latest", x.batchOf(0, 6), 0);
        x.recall(0, 0, 0);
        Check.is("of a recalled one", x.sample(0, 9, 9, 1), 1);
        Check.is("told so", x.batchOf(0, 6), 1);
    }

    @Sentence(promise = 20, value = "- `batch`: its number")
    static void sampleTakesEachNumber() {
        Check.numbers("batch", 40, batch -> c -> c.sample(batch, 1, 1, 1));
        Conformary x = Given.full();
        x.sample(39, 1, 0, 0);
        Check.is("the last one", x.batchOf(39, 6), 2);
        Check.is("the one ahead of it", x.batchOf(38, 6), -1);
    }

    @Sentence(promise = 20, value = "- `measured`: 0 to 100000")
    static void sampleMeasuredIs0To100000() {
        Check.range("measured", Given::market, 0, 100000, measured -> c -> c.sample(0, measured, 5, 1));
        Check.is("the lowest", Given.market().sample(0, 0, 0, 0), 0);
        Check.is("the highest", Given.market().sample(0, 100000, 99999, 0), 2);
    }

    @Sentence(promise = 20, value = "- `limit`: 0 to 100000")
    static void sampleLimitIs0To100000() {
        Check.range("limit", Given::market, 0, 100000, limit -> c -> c.sample(0, 5, limit, 1));
        Check.is("the lowest", Given.market().sample(0, 1, 0, 0), 2);
        Check.is("the highest", Given.market().sample(0, 100000, 100000, 0), 0);
    }

    @Sentence(promise = 20, value = "- `doubt`: 0 to 10000")
    static void sampleDoubtIs0To10000() {
        Check.range("doubt", Given::market, 0, 10000, doubt -> c -> c.sample(0, 5, 5, doubt));
        Check.is("the lowest", Given.market().sample(0, 5, 5, 0), 0);
        Check.is("the highest", Given.market().sample(0, 10005, 5, 10000), 1);
        Check.is("the highest, 1 above", Given.market().sample(0, 10006, 5, 10000), 2);
    }

    @Sentence(promise = 20, value = "Returns PASSED to FAILED.")
    static void sampleReturnsPassedToFailed() {
        for (int measured = 0; measured <= 20; measured++) {
            int due = measured <= 7 ? Conformary.PASSED : measured <= 13 ? Conformary.OPEN : Conformary.FAILED;
            Check.is("measured " + measured + " against 10, doubt 3", Given.market().sample(0, measured, 10, 3), due);
            due = measured <= 10 ? Conformary.PASSED : Conformary.FAILED;
            Check.is("measured " + measured + " against 10, no doubt", Given.market().sample(0, measured, 10, 0), due);
        }
    }

    @Sentence(promise = 20, value = "Throws `IndexOutOfBoundsException` if there is no such batch")
    static void sampleRefusesNoSuchBatch() {
        Check.index("none", Given::market, c -> c.sample(3, 1, 1, 1));
        Check.index("none, and all out of range", Given::market, c -> c.sample(3, -1, 100001, 10001));
        Check.index("a 41st", Given::full, c -> c.sample(40, 1, 1, 1));
    }

    @Sentence(promise = 20, value = "Throws `IllegalArgumentException` if measured, limit or doubt is out of range")
    static void sampleRefusesWhatIsOutOfRange() {
        Check.argument("measured below", Given::market, c -> c.sample(0, -1, 1, 1));
        Check.argument("measured above", Given::market, c -> c.sample(0, 100001, 1, 1));
        Check.argument("limit below", Given::market, c -> c.sample(0, 1, -1, 1));
        Check.argument("limit above", Given::market, c -> c.sample(0, 1, 100001, 1));
        Check.argument("doubt below", Given::market, c -> c.sample(0, 1, 1, -1));
        Check.argument("doubt above", Given::market, c -> c.sample(0, 1, 1, 10001));
        Check.argument("all", Given::market, c -> c.sample(0, -1, 100001, 10001));
    }

    // ---- promise 21: event

    @Sentence(promise = 21, value = "Tells an event.")
    static void eventTellsAnEventOfThatBatch() {
        Conformary x = Given.market();
        x.event(0, 2, 3);
        x.event(0, 1, 4);
        Check.is("harmed in all", x.batchOf(0, 8), 7);
        Check.is("its level", x.batchOf(0, 7), 2);
        Check.is("of another one none harmed", x.batchOf(2, 8), 0);
        Check.is("another one's level", x.batchOf(2, 7), 0);
        x.recall(0, 0, 0);
        Check.is("of a recalled one", x.event(0, 3, 1), 3);
    }

    @Sentence(promise = 21, value = "- `batch`: its number")
    static void eventTakesEachNumber() {
        Check.numbers("batch", 40, batch -> c -> c.event(batch, 1, 1));
        Conformary x = Given.full();
        x.event(39, 3, 2);
        Check.is("the last one", x.batchOf(39, 8), 2);
        Check.is("the one ahead of it", x.batchOf(38, 8), 0);
    }

    @Sentence(promise = 21, value = "- `severity`: 0 to 3")
    static void eventSeverityIs0To3() {
        Check.range("severity", Given::market, 0, 3, severity -> c -> c.event(0, severity, 1));
        Check.is("the lowest", Given.market().event(0, 0, 1), 0);
        Check.is("the highest", Given.market().event(0, 3, 1), 3);
    }

    @Sentence(promise = 21, value = "- `harmed`: 1 to 1000")
    static void eventHarmedIs1To1000() {
        Check.range("harmed", Given::market, 1, 1000, harmed -> c -> c.event(0, 1, harmed));
        Conformary x = Given.market();
        x.event(0, 0, 1);
        Check.is("the lowest", x.batchOf(0, 8), 1);
        x.event(0, 0, 1000);
        Check.is("the highest too", x.batchOf(0, 8), 1001);
    }

    @Sentence(promise = 21, value = "Returns the level of the batch then.")
    static void eventReturnsTheLevelThen() {
        Conformary x = Given.market();
        Check.is("0, the lowest", x.event(0, 0, 1), 0);
        Check.is("by a severity", x.event(0, 1, 1), 1);
        Check.is("by those harmed", x.event(0, 1, 8), 2);
        Check.is("by more harmed", x.event(0, 0, 40), 3);
        x.sample(0, 1, 0, 0);
        Check.is("by a sample", x.event(0, 0, 1), 4);
        Check.is("6, the highest", x.event(0, 3, 1000), 6);
        Check.is("as the batch tells", x.batchOf(0, 7), 6);
    }

    @Sentence(promise = 21, value = "Throws `IndexOutOfBoundsException` if there is no such batch")
    static void eventRefusesNoSuchBatch() {
        Check.index("none", Given::market, c -> c.event(3, 1, 1));
        Check.index("none, and all out of range", Given::market, c -> c.event(3, 4, 0));
        Check.index("a 41st", Given::full, c -> c.event(40, 1, 1));
    }

    @Sentence(promise = 21, value = "Throws `IllegalArgumentException` if severity or harmed is out of range")
    static void eventRefusesWhatIsOutOfRange() {
        Check.argument("severity below", Given::market, c -> c.event(0, -1, 1));
        Check.argument("severity above", Given::market, c -> c.event(0, 4, 1));
        Check.argument("none harmed", Given::market, c -> c.event(0, 1, 0));
        Check.argument("too many harmed", Given::market, c -> c.event(0, 1, 1001));
        Check.argument("both", Given::market, c -> c.event(0, 4, 0));
    }

    // ---- promise 22: recall

    @Sentence(promise = 22, value = "Recalls all batches of a product that are ON the market, from one to another one.")
    static void recallRecallsThoseOfTheProductFromOneToAnother() {
        Conformary x = Given.market();
        for (int batch = 3; batch < 8; batch++) {
            x.post(batch % 2, batch);
        }
        x.recall(0, 2, 6);
        int[] due = {0, 0, 1, 0, 1, 0, 1, 0};
        for (int batch = 0; batch < due.length; batch++) {
            Check.is("batch " + batch, x.batchOf(batch, 5), due[batch]);
        }
        x.recall(1, 0, 7);
        Check.is("the first of all", x.batchOf(0, 5), 0);
        Check.is("the last of all", x.batchOf(7, 5), 1);
        Check.is("the other one's first", x.batchOf(1, 5), 1);
    }

    @Sentence(promise = 22, value = "- `product`: its number")
    static void recallTakesEachNumber() {
        Check.numbers("product", 10, product -> c -> c.recall(product, 0, 1));
        Conformary x = Given.full();
        Check.is("the last one's", x.recall(9, 0, 39), 10 + 20 + 30 + 40);
        Check.is("the first one's", x.recall(0, 0, 39), 1 + 11 + 21 + 31);
    }

    @Sentence(promise = 22, value = "- `first`: a batch")
    static void recallFirstIsABatch() {
        Check.numbers("first", 40, first -> c -> c.recall(0, first, first));
        Check.is("one of another product", Given.market().recall(0, 1, 2), 20);
        Check.is("that one", Given.market().recall(0, 0, 1), 1000);
        Check.is("behind it", Given.market().recall(0, 2, 2), 20);
    }

    @Sentence(promise = 22, value = "- `last`: first or a later one")
    static void recallLastIsFirstOrALaterOne() {
        Check.numbers("last", 40, last -> c -> c.recall(0, 0, last));
        Check.is("the first", Given.market().recall(0, 0, 0), 1000);
        Check.is("a later one", Given.market().recall(0, 0, 1), 1000);
        Check.is("that one too", Given.market().recall(0, 0, 2), 1020);
        Check.is("all of all", Given.full().recall(3, 0, 39), 4 + 14 + 24 + 34);
        Check.is("the last of all alone", Given.full().recall(9, 39, 39), 40);
    }

    @Sentence(promise = 22, value = "Returns how many units.")
    static void recallReturnsHowManyUnits() {
        Conformary x = Given.market();
        Check.is("of another product alone", x.recall(1, 0, 0), 0);
        Check.is("all", x.recall(0, 0, 2), 1020);
        Check.is("once more", x.recall(0, 0, 2), 0);
        x.post(0, 8);
        Check.is("those that are ON", x.recall(0, 0, 3), 8);
        Conformary most = new Conformary();
        most.product(1);
        for (int batch = 0; batch < 40; batch++) {
            most.post(0, 10000);
        }
        Check.is("the most", most.recall(0, 0, 39), 400000);
    }

    @Sentence(promise = 22, value = "Throws `IndexOutOfBoundsException` if there is no such product or batch, of both")
    static void recallRefusesNoSuchProductOrBatch() {
        Check.index("no product", Given::market, c -> c.recall(2, 0, 2));
        Check.index("no first", Given::market, c -> c.recall(0, -1, 2));
        Check.index("no last", Given::market, c -> c.recall(0, 0, 3));
        Check.index("neither", Given::market, c -> c.recall(0, 3, 3));
        Check.index("no first, above last", Given::market, c -> c.recall(0, 3, 2));
        Check.index("no last, below first", Given::market, c -> c.recall(0, 0, -1));
        Check.index("neither, last below first", Given::market, c -> c.recall(0, 4, 3));
        Check.index("no product, last below first", Given::market, c -> c.recall(2, 1, 0));
        Check.index("a 41st batch", Given::full, c -> c.recall(0, 0, 40));
        Check.index("an 11th product", Given::full, c -> c.recall(10, 0, 39));
    }

    @Sentence(promise = 22, value = "Throws `IllegalArgumentException` if last is below first")
    static void recallRefusesLastBelowFirst() {
        Check.argument("1 below", Given::market, c -> c.recall(0, 2, 1));
        Check.argument("1 below, of another product", Given::market, c -> c.recall(1, 1, 0));
        Check.argument("as far as may be", Given::full, c -> c.recall(0, 39, 0));
    }

    // ---- promise 23: ban

    @Sentence(promise = 23, value = "A state is for a ban, or not.")
    static void banTellsOfAStateAndAProduct() {
        Conformary x = Given.market();
        x.ban(0, 0, true);
        x.ban(1, 0, true);
        x.ban(2, 1, true);
        Check.is("two are for one, one for the other", x.wanting(0), 0);
        x.ban(2, 0, true);
        Check.is("three", x.wanting(0), 1);
        x.ban(0, 0, false);
        Check.is("two", x.wanting(0), 0);
    }

    @Sentence(promise = 23, value = "- `state`: 0 to 4")
    static void banStateIs0To4() {
        Check.numbersBelow("state, for it", Given::market, 5, state -> c -> c.ban(state, 0, true));
        Check.numbersBelow("state, not for it", MarketTest::bannedMarket, 5, state -> c -> c.ban(state, 0, false));
        Conformary x = Given.market();
        for (int state = 0; state < 5; state++) {
            Check.is("each is another one, " + state, x.ban(state, 0, true), state + 1);
        }
    }

    @Sentence(promise = 23, value = "- `product`: its number")
    static void banTakesEachNumber() {
        Check.numbers("product", 10, product -> c -> c.ban(0, product, true));
        Conformary x = Given.full();
        Given.ban(x, 9);
        Check.is("the last one", x.wanting(9), 1);
        Check.is("the one ahead of it", x.wanting(8), 0);
    }

    @Sentence(promise = 23, value = "- `isFor`: whether it is for that")
    static void banIsForOrNot() {
        Conformary x = Given.market();
        Check.is("not, as it was", x.ban(3, 0, false), 0);
        Check.is("for it", x.ban(3, 0, true), 1);
        Check.is("for it, as it was", x.ban(3, 0, true), 1);
        Check.is("another one not, as it was", x.ban(2, 0, false), 1);
        Check.is("not", x.ban(3, 0, false), 0);
    }

    @Sentence(promise = 23, value = "Returns how many states are for it.")
    static void banReturnsHowManyAreForIt() {
        Conformary x = Given.market();
        for (int state = 4; state >= 0; state--) {
            Check.is("with " + state, x.ban(state, 0, true), 5 - state);
        }
        Check.is("of the other product", x.ban(0, 1, true), 1);
        for (int state = 0; state < 5; state++) {
            Check.is("without " + state, x.ban(state, 0, false), 4 - state);
        }
    }

    @Sentence(promise = 23, value = "Throws `IndexOutOfBoundsException` if there is no such state or product")
    static void banRefusesNoSuchStateOrProduct() {
        Check.index("no state", MarketTest::bannedMarket, c -> c.ban(5, 0, true));
        Check.index("no state, not for it", MarketTest::bannedMarket, c -> c.ban(-1, 0, false));
        Check.index("no state, a shift round to 0", MarketTest::bannedMarket, c -> c.ban(32, 0, false));
        Check.index("no product", MarketTest::bannedMarket, c -> c.ban(0, 2, false));
        Check.index("neither", MarketTest::bannedMarket, c -> c.ban(5, -1, true));
        Check.index("an 11th product", Given::full, c -> c.ban(4, 10, true));
    }

    // ---- promise 24: pass

    @Sentence(promise = 24, value = "Lets days pass.")
    static void passLetsDaysPass() {
        Conformary x = Given.market();
        x.pass(4);
        Check.is("the day", x.day(), 7);
        Check.is("what came stays as it came", x.batchOf(0, 2), 3);
        x.post(0, 1);
        Check.is("what comes comes then", x.batchOf(3, 2), 7);
    }

    @Sentence(promise = 24, value = "- `days`: 1 to 500")
    static void passDaysAre1To500() {
        Check.range("days", Given::market, 1, 500, days -> c -> c.pass(days));
        Conformary x = new Conformary();
        Check.is("the lowest", x.pass(1), 1);
        Check.is("the highest", x.pass(500), 501);
    }

    @Sentence(promise = 24, value = "Returns the day then.")
    static void passReturnsTheDayThen() {
        Conformary x = new Conformary();
        int day = 0;
        for (int days = 1; days <= 99; days++) {
            day += days;
            Check.is("by " + days, x.pass(days), day);
        }
        Check.is("to the last day", x.pass(50), 5000);
    }

    @Sentence(promise = 24, value = "Throws `IllegalArgumentException` if days are out of range")
    static void passRefusesDaysOutOfRange() {
        Check.argument("none", Given::market, c -> c.pass(0));
        Check.argument("too many", Given::market, c -> c.pass(501));
        Check.argument("too many, and above 5000", () -> Given.atDay(Given.market(), 4700), c -> c.pass(501));
        Check.argument("none on the last day", () -> Given.atDay(Given.market(), 5000), c -> c.pass(0));
        Check.argument("back from the last day", () -> Given.atDay(Given.market(), 5000), c -> c.pass(-1));
        Check.argument("a sum with a wrap-around", () -> Given.atDay(Given.market(), 5000), c -> c.pass(Integer.MAX_VALUE));
    }

    @Sentence(promise = 24, value = "Throws `IllegalStateException` if it would be above 5000")
    static void passRefusesADayAbove5000() {
        Check.state("501 of 500", () -> Given.atDay(Given.market(), 4501), c -> c.pass(500));
        Check.state("1 above", () -> Given.atDay(Given.market(), 4600), c -> c.pass(401));
        Check.state("behind the last day", () -> Given.atDay(Given.market(), 5000), c -> c.pass(1));
        Check.is("to the last day by 500", Given.atDay(Given.market(), 4500).pass(500), 5000);
        Check.is("to the last day by 400", Given.atDay(Given.market(), 4600).pass(400), 5000);
        Check.is("to the last day by 1", Given.atDay(Given.market(), 4999).pass(1), 5000);
    }

    // ---- promise 25: day

    @Sentence(promise = 25, value = "Returns the day.")
    static void dayReturnsTheDay() {
        Conformary x = new Conformary();
        Check.is("the first", x.day(), 0);
        x.pass(1);
        Check.is("the second", x.day(), 1);
        Check.is("once more", x.day(), 1);
        x.pass(500);
        Check.is("far on", x.day(), 501);
        Given.atDay(x, 5000);
        Check.is("the last", x.day(), 5000);
        Check.is("no day behind it", Check.answer(x, c -> c.pass(1)), "IllegalStateException");
        Check.is("the last still", x.day(), 5000);
    }

    // ---- promise 32: batchOf

    @Sentence(promise = 32, value = "Tells of a batch.")
    static void batchOfTellsOfABatch() {
        Conformary x = Given.market();
        x.change(1, 3);
        x.pass(4);
        x.risk(1, 0, 9, 5);
        x.post(1, 60);
        int[] due = {1, 60, 7, 3, 2, 0, -1, 0, 0};
        for (int what = 0; what <= 8; what++) {
            Check.is("a new one's " + what, x.batchOf(3, what), due[what]);
        }
        x.sample(3, 9, 9, 9);
        x.event(3, 2, 4);
        x.recall(1, 3, 3);
        x.change(1, 1);
        x.pass(1);
        int[] then = {1, 60, 7, 3, 2, 1, 1, 4, 4};
        for (int what = 0; what <= 8; what++) {
            Check.is("its " + what + " then", x.batchOf(3, what), then[what]);
        }
    }

    @Sentence(promise = 32, value = "- `batch`: its number")
    static void batchOfTakesEachNumber() {
        for (int what = 0; what <= 8; what++) {
            int asked = what;
            Check.numbers("what " + what + ", batch", 40, batch -> c -> c.batchOf(batch, asked));
        }
        Conformary x = Given.full();
        for (int batch = 0; batch < 40; batch++) {
            Check.is("units of batch " + batch, x.batchOf(batch, 1), 1 + batch);
        }
    }

    @Sentence(promise = 32, value = "- `what`: 0 its product, 1 its units, 2 the day on which it came, 3 its version, 4 what was wanting then,")
    static void batchOf0To4AreWhatItCameWith() {
        Check.range("what", Given::market, 0, 8, what -> c -> c.batchOf(0, what));
        Conformary x = Given.lacking(2);
        x.post(0, 10000);
        x.product(1);
        x.pass(1);
        x.place(1, 1);
        x.change(0, 1);
        x.risk(0, 2, 1, 1);
        int[] first = {0, 10000, 0, 1, 2};
        int[] second = {1, 1, 1, 0, 0};
        for (int what = 0; what <= 4; what++) {
            Check.is("the first one's " + what, x.batchOf(0, what), first[what]);
            Check.is("the second one's " + what, x.batchOf(1, what), second[what]);
        }
    }

    @Sentence(promise = 32, value = "5 ON or RECALLED,")
    static void batchOf5IsOnOrRecalled() {
        Conformary x = Given.market();
        Check.is("ON", x.batchOf(1, 5), Conformary.ON);
        x.recall(1, 1, 1);
        Check.is("RECALLED", x.batchOf(1, 5), Conformary.RECALLED);
        x.recall(1, 0, 2);
        Check.is("RECALLED still", x.batchOf(1, 5), Conformary.RECALLED);
    }

    @Sentence(promise = 32, value = "6 its latest sample, NONE,")
    static void batchOf6IsItsLatestSample() {
        Conformary x = Given.market();
        Check.is("none", x.batchOf(0, 6), Conformary.NONE);
        x.sample(0, 0, 0, 0);
        Check.is("PASSED", x.batchOf(0, 6), Conformary.PASSED);
        x.sample(0, 1, 0, 1);
        Check.is("OPEN", x.batchOf(0, 6), Conformary.OPEN);
        x.sample(0, 1, 0, 0);
        Check.is("FAILED", x.batchOf(0, 6), Conformary.FAILED);
        Check.is("a refused one is none", Check.answer(x, c -> c.sample(0, 0, 0, -1)), "IllegalArgumentException");
        Check.is("FAILED still", x.batchOf(0, 6), Conformary.FAILED);
    }

    @Sentence(promise = 32, value = "7 its level, 8 how many people were harmed")
    static void batchOf7And8AreLevelAndHarmed() {
        Conformary x = Given.market();
        Check.is("the lowest level", x.batchOf(0, 7), 0);
        Check.is("none harmed", x.batchOf(0, 8), 0);
        x.event(0, 3, 1);
        Check.is("the level", x.batchOf(0, 7), 3);
        Check.is("one harmed", x.batchOf(0, 8), 1);
        x.event(0, 0, 1000);
        x.sample(0, 1, 0, 0);
        Check.is("the highest level", x.batchOf(0, 7), 6);
        Check.is("more harmed than there are units", x.batchOf(0, 8), 1001);
    }

    @Sentence(promise = 32, value = "Throws `IndexOutOfBoundsException` if there is no such batch")
    static void batchOfRefusesNoSuchBatch() {
        Check.index("none", Given::market, c -> c.batchOf(3, 0));
        Check.index("none, and what is out of range", Given::market, c -> c.batchOf(3, 9));
        Check.index("a 41st, and what is out of range", Given::full, c -> c.batchOf(40, -1));
    }

    @Sentence(promise = 32, value = "Throws `IllegalArgumentException` if what is out of range")
    static void batchOfRefusesWhatOutOfRange() {
        Check.argument("9", Given::market, c -> c.batchOf(0, 9));
        Check.argument("-1", Given::market, c -> c.batchOf(0, -1));
        Check.argument("9 of the last of all", Given::full, c -> c.batchOf(39, 9));
    }

    // ---- promise 33: wantingAnew

    @Sentence(promise = 33, value = "Returns what was wanting when a batch came, by all that was told up to then, told once more.")
    static void wantingAnewReturnsWhatWasWantingThen() {
        for (int lack = 0; lack <= 6; lack++) {
            Conformary x = Given.lacking(lack);
            x.post(0, 1);
            Check.is("at once, " + lack, x.wantingAnew(0), lack);
            x.pass(500);
            Check.is("later, " + lack, x.wantingAnew(0), lack);
            Given.atDay(x, 5000);
            Check.is("on the last day, " + lack, x.wantingAnew(0), lack);
            Check.is("as it is known of it, " + lack, x.batchOf(0, 4), lack);
        }
    }

    @Sentence(promise = 33, value = "by all that was told up to then, told once more.")
    static void wantingAnewIsNotOfWhatIsToldLaterTheSameDay() {
        Conformary x = Given.lacking(3);
        x.post(0, 1);
        x.prove(0, 4);
        x.post(0, 1);
        x.certify(0, 0, 100);
        x.post(0, 1);
        x.visit(0, true);
        x.post(0, 1);
        x.declare(0);
        x.place(0, 1);
        Given.ban(x, 0);
        x.post(0, 1);
        x.ban(0, 0, false);
        x.risk(0, 2, 9, 9);
        x.post(0, 1);
        int[] due = {3, 4, 5, 6, 0, 1, 2};
        for (int batch = 0; batch < due.length; batch++) {
            Check.is("batch " + batch, x.wantingAnew(batch), due[batch]);
        }
    }

    @Sentence(promise = 33, value = "by all that was told up to then, told once more.")
    static void wantingAnewIsNotOfWhatIsToldOnLaterDays() {
        Conformary x = Given.fine();
        x.place(0, 1);
        x.pass(1);
        x.act(1, 0, 255, 0);
        x.special(1, 0);
        x.standard(255, 0);
        x.withdraw(0, 1);
        x.restrict(0, 255);
        x.suspend(0, true);
        x.visit(0, false);
        x.change(0, 1);
        x.risk(0, 2, 9, 9);
        Given.ban(x, 0);
        x.recall(0, 0, 0);
        x.pass(500);
        Check.is("nothing was wanting", x.wantingAnew(0), 0);
        x.post(0, 1);
        Check.is("a ban then", x.wantingAnew(1), 1);
        Check.is("nothing was wanting to the first still", x.wantingAnew(0), 0);
    }

    @Sentence(promise = 33, value = "Returns what was wanting when a batch came,")
    static void wantingAnewIsByTheDayOfThen() {
        Conformary x = Given.fine();
        x.pass(100);
        x.post(0, 1);
        x.pass(1);
        x.post(0, 1);
        x.act(255, 0, 255, 102);
        x.withdraw(0, 5000);
        x.pass(1);
        x.post(0, 1);
        Check.is("on the certificate's last day", x.wantingAnew(0), 0);
        Check.is("on the day behind it", x.wantingAnew(1), 4);
        Check.is("by an act more", x.wantingAnew(2), 4);
    }

    @Sentence(promise = 33, value = "- `batch`: its number")
    static void wantingAnewTakesEachNumber() {
        Check.numbers("batch", 40, batch -> c -> c.wantingAnew(batch));
        Conformary x = Given.lacking(6);
        for (int batch = 0; batch < 39; batch++) {
            x.post(0, 1);
        }
        x.declare(0);
        x.place(0, 1);
        Check.is("the first", x.wantingAnew(0), 6);
        Check.is("the one ahead of the last", x.wantingAnew(38), 6);
        Check.is("the last", x.wantingAnew(39), 0);
    }

    @Sentence(promise = 33, value = "Throws `IndexOutOfBoundsException` if there is no such batch")
    static void wantingAnewRefusesNoSuchBatch() {
        Check.index("none", Given::market, c -> c.wantingAnew(3));
        Check.index("-1", Given::market, c -> c.wantingAnew(-1));
        Check.index("without batches", Given::fine, c -> c.wantingAnew(0));
        Check.index("a 41st", Given::full, c -> c.wantingAnew(40));
    }
}
