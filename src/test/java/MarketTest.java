/** Promises 18 to 25, 32 and 33: batches, samples, events, recalls, bans and days. */
public final class MarketTest {
    private static final int LOW = Integer.MIN_VALUE, HIGH = Integer.MAX_VALUE;
    private static final int[] NO_PRODUCT = {2, -1, 10, LOW, HIGH};
    private static final int[] NO_BATCH = {3, -1, 40, LOW, HIGH};

    public static void main(String[] args) {
        placeAnswers();
        placeRefuses();
        postAnswers();
        postRefuses();
        sampleAnswers();
        sampleRefuses();
        eventAnswers();
        eventRefuses();
        levelAnswers();
        recallAnswers();
        recallRefuses();
        banAnswers();
        banRefuses();
        passAnswers();
        passRefuses();
        batchOfAnswers();
        askedRefuse();
        wantingAnewAnswers();
        Check.end("MarketTest");
    }

    /**
     * On day 3: product 0 without demands and with the batches 0 (1000 units) and 2 (20 units),
     * product 1 with a demand that is not kept and batch 1 (7 units).
     */
    private static Conformary market() {
        Conformary x = new Conformary();
        x.act(2, 0, 1, 0);
        x.product(1);
        x.product(2);
        x.risk(1, 0, 3, 3);
        x.pass(3);
        x.post(0, 1000);
        x.post(1, 7);
        x.post(0, 20);
        return x;
    }

    private static Conformary fullMarket() {
        Conformary x = market();
        for (int batch = 3; batch < 40; batch++) {
            x.post(0, 1);
        }
        return x;
    }

    private static void placeAnswers() {
        Conformary x = market();
        Check.is("one unit", x.place(0, 1), 3);
        Check.is("most units", x.place(0, 10000), 4);
        Check.is("what was wanting", x.batchOf(4, 4), 0);
        x.prove(1, 1);
        x.declare(1);
        Check.is("the other one", x.place(1, 5), 5);
        Check.is("on the market", x.productOf(1, 6), 12);
        Conformary y = new Conformary();
        y.product(1);
        for (int batch = 0; batch < 40; batch++) {
            Check.is("batch " + batch, y.place(0, 1), batch);
        }
    }

    private static void placeRefuses() {
        for (int wrong : NO_PRODUCT) {
            Check.index("place product " + wrong, MarketTest::market, c -> c.place(wrong, 1));
        }
        for (int wrong : new int[] {0, 10001, -1, LOW, HIGH}) {
            Check.argument("place units " + wrong, MarketTest::market, c -> c.place(0, wrong));
            Check.argument("place what wants, units " + wrong, MarketTest::market, c -> c.place(1, wrong));
            Check.argument("place a 41st batch, units " + wrong, MarketTest::fullMarket, c -> c.place(0, wrong));
            Check.index("place no product, units " + wrong, MarketTest::market, c -> c.place(2, wrong));
        }
        Check.state("place while 3 is wanting", MarketTest::market, c -> c.place(1, 1));
        Check.state("place while 6 is wanting", MarketTest::undeclared, c -> c.place(1, 1));
        Check.state("place while 1 is wanting", MarketTest::banned, c -> c.place(0, 1));
        Check.state("place a 41st batch", MarketTest::fullMarket, c -> c.place(0, 1));
    }

    private static Conformary undeclared() {
        Conformary x = market();
        x.prove(1, 1);
        return x;
    }

    private static Conformary banned() {
        Conformary x = market();
        x.ban(0, 0, true);
        x.ban(3, 0, true);
        x.ban(4, 0, true);
        return x;
    }

    private static void postAnswers() {
        Conformary x = market();
        Check.is("one unit", x.post(0, 1), 3);
        Check.is("most units, whatever is wanting", x.post(1, 10000), 4);
        Check.is("what was wanting", x.batchOf(4, 4), 3);
        Check.is("of a banned one", banned().post(0, 1), 3);
        Conformary y = market();
        for (int batch = 3; batch < 40; batch++) {
            Check.is("batch " + batch, y.post(1, 1), batch);
        }
    }

    private static void postRefuses() {
        for (int wrong : NO_PRODUCT) {
            Check.index("post product " + wrong, MarketTest::market, c -> c.post(wrong, 1));
        }
        for (int wrong : new int[] {0, 10001, -1, LOW, HIGH}) {
            Check.argument("post units " + wrong, MarketTest::market, c -> c.post(0, wrong));
            Check.argument("post a 41st batch, units " + wrong, MarketTest::fullMarket, c -> c.post(0, wrong));
            Check.index("post no product, units " + wrong, MarketTest::market, c -> c.post(2, wrong));
        }
        Check.state("post a 41st batch", MarketTest::fullMarket, c -> c.post(0, 1));
        Check.index("post a 41st batch of no product", MarketTest::fullMarket, c -> c.post(2, 1));
    }

    private static void sampleAnswers() {
        Conformary x = market();
        Check.is("above even less the doubt", x.sample(0, 111, 100, 10), 2);
        Check.is("at it less the doubt", x.sample(0, 110, 100, 10), 1);
        Check.is("above it with the doubt", x.sample(0, 91, 100, 10), 1);
        Check.is("at it with the doubt", x.sample(0, 90, 100, 10), 0);
        Check.is("the latest one", x.batchOf(0, 6), 0);
        Check.is("at it without doubt", x.sample(0, 100, 100, 0), 0);
        Check.is("above it without doubt", x.sample(0, 101, 100, 0), 2);
        Check.is("the latest one then", x.batchOf(0, 6), 2);
        Check.is("all 0", x.sample(0, 0, 0, 0), 0);
        Check.is("all the most", x.sample(0, 100000, 100000, 10000), 1);
        Check.is("the most above 0", x.sample(0, 100000, 0, 10000), 2);
        Check.is("0 below the most", x.sample(0, 0, 100000, 10000), 0);
        Check.is("less than the doubt", x.sample(0, 3, 0, 10), 1);
        Check.is("of another batch none", x.batchOf(1, 6), -1);
    }

    private static void sampleRefuses() {
        for (int wrong : NO_BATCH) {
            Check.index("sample of batch " + wrong, MarketTest::market, c -> c.sample(wrong, 1, 1, 1));
            Check.index("sample of batch " + wrong + " and all wrong", MarketTest::market, c -> c.sample(wrong, -1, -1, -1));
        }
        for (int wrong : new int[] {100001, -1, LOW, HIGH}) {
            Check.argument("measured " + wrong, MarketTest::market, c -> c.sample(0, wrong, 1, 1));
            Check.argument("limit " + wrong, MarketTest::market, c -> c.sample(0, 1, wrong, 1));
        }
        for (int wrong : new int[] {10001, -1, LOW, HIGH}) {
            Check.argument("doubt " + wrong, MarketTest::market, c -> c.sample(0, 1, 1, wrong));
        }
    }

    private static void eventAnswers() {
        Conformary x = market();
        Check.is("severity 0", x.event(0, 0, 1), 0);
        Check.is("severity 3", x.event(0, 3, 1), 3);
        Check.is("a lower one leaves the highest", x.event(0, 1, 1), 3);
        Check.is("harmed in all", x.batchOf(0, 8), 3);
        Check.is("of another batch none", x.batchOf(2, 8), 0);
        Check.is("most harmed", x.event(0, 0, 1000), 5);
        Check.is("harmed in all then", x.batchOf(0, 8), 1003);
        x.recall(0, 0, 0);
        Check.is("of a recalled one too", x.event(0, 0, 1), 5);
        x.post(0, 10000);
        int level = 0;
        for (int i = 0; i < 400; i++) {
            level = x.event(3, 0, 1000);
        }
        Check.is("many people", x.batchOf(3, 8), 400000);
        Check.is("the level of that", level, 2);
    }

    private static void eventRefuses() {
        for (int wrong : NO_BATCH) {
            Check.index("event of batch " + wrong, MarketTest::market, c -> c.event(wrong, 1, 1));
            Check.index("event of batch " + wrong + " and all wrong", MarketTest::market, c -> c.event(wrong, 4, 0));
        }
        for (int wrong : new int[] {4, -1, LOW, HIGH}) {
            Check.argument("severity " + wrong, MarketTest::market, c -> c.event(0, wrong, 1));
        }
        for (int wrong : new int[] {0, 1001, -1, LOW, HIGH}) {
            Check.argument("harmed " + wrong, MarketTest::market, c -> c.event(0, 1, wrong));
        }
    }

    private static void levelAnswers() {
        Conformary x = market();
        Check.is("without events", x.batchOf(0, 7), 0);
        Check.is("9 of 1000", x.event(0, 1, 9), 1);
        Check.is("10 of 1000", x.event(0, 0, 1), 2);
        Check.is("49 of 1000", x.event(0, 0, 39), 2);
        Check.is("50 of 1000", x.event(0, 0, 1), 3);
        x.sample(0, 5, 1, 0);
        Check.is("and a failed sample", x.batchOf(0, 7), 4);
        x.sample(0, 5, 5, 1);
        Check.is("an open one in place of that", x.batchOf(0, 7), 3);
        x.sample(1, 5, 1, 0);
        Check.is("a failed sample without events", x.batchOf(1, 7), 1);
        x.sample(1, 1, 1, 0);
        Check.is("passed then", x.batchOf(1, 7), 0);
        Check.is("1 of 20, rounded down 50 of 1000", x.event(2, 0, 1), 2);
        x.post(0, 101);
        Check.is("1 of 101, rounded down 9 of 1000", x.event(3, 0, 1), 0);
        x.post(0, 100);
        Check.is("1 of 100", x.event(4, 0, 1), 1);
        x.post(0, 21);
        Check.is("1 of 21, rounded down 47 of 1000", x.event(5, 0, 1), 1);
        x.sample(5, 100000, 0, 0);
        Check.is("the highest level", x.event(5, 3, 1000), 6);
    }

    private static void recallAnswers() {
        Conformary x = market();
        Check.is("of another product", x.recall(1, 0, 0), 0);
        Check.is("all of it", x.recall(0, 0, 2), 1020);
        Check.is("RECALLED", x.batchOf(0, 5), 1);
        Check.is("RECALLED too", x.batchOf(2, 5), 1);
        Check.is("the other product's is ON", x.batchOf(1, 5), 0);
        Check.is("once more", x.recall(0, 0, 2), 0);
        Check.is("none ON the market", x.productOf(0, 6), 0);
        x.post(0, 8);
        x.post(0, 9);
        Check.is("those that are ON", x.recall(0, 0, 3), 8);
        Check.is("from the first told", x.recall(0, 4, 4), 9);
        Conformary y = market();
        Check.is("to the last told", y.recall(0, 1, 2), 20);
        Check.is("the one ahead is ON", y.batchOf(0, 5), 0);
    }

    private static void recallRefuses() {
        for (int wrong : NO_PRODUCT) {
            Check.index("recall of product " + wrong, MarketTest::market, c -> c.recall(wrong, 0, 2));
            Check.index("recall of product " + wrong + ", last below", MarketTest::market, c -> c.recall(wrong, 2, 0));
        }
        for (int wrong : NO_BATCH) {
            Check.index("recall from batch " + wrong, MarketTest::market, c -> c.recall(0, wrong, 2));
            Check.index("recall to batch " + wrong, MarketTest::market, c -> c.recall(0, 1, wrong));
        }
        Check.argument("last below first", MarketTest::market, c -> c.recall(0, 2, 1));
    }

    private static void banAnswers() {
        Conformary x = market();
        Check.is("not for it at first", x.ban(0, 0, false), 0);
        Check.is("one", x.ban(0, 0, true), 1);
        Check.is("the same", x.ban(0, 0, true), 1);
        Check.is("another one", x.ban(4, 0, true), 2);
        Check.is("not banned", x.wanting(0), 0);
        Check.is("a third one", x.ban(2, 0, true), 3);
        Check.is("banned", x.wanting(0), 1);
        Check.is("all of 5", x.ban(1, 0, true) + x.ban(3, 0, true), 9);
        Check.is("one not", x.ban(2, 0, false), 4);
        Check.is("the same not", x.ban(2, 0, false), 4);
        Check.is("it was that one alone", x.ban(3, 0, true), 4);
        Check.is("another one not", x.ban(3, 0, false), 3);
        Check.is("for another product none", x.ban(4, 1, true), 1);
        Check.is("still banned", x.wanting(0), 1);
    }

    private static void banRefuses() {
        for (int wrong : new int[] {5, -1, 32, LOW, HIGH}) {
            Check.index("ban by state " + wrong, MarketTest::market, c -> c.ban(wrong, 0, true));
            Check.index("no ban by state " + wrong, MarketTest::market, c -> c.ban(wrong, 0, false));
        }
        for (int wrong : NO_PRODUCT) {
            Check.index("ban of product " + wrong, MarketTest::market, c -> c.ban(0, wrong, true));
        }
    }

    private static void passAnswers() {
        Conformary x = new Conformary();
        Check.is("one day", x.pass(1), 1);
        Check.is("the day", x.day(), 1);
        Check.is("most days", x.pass(500), 501);
        Check.is("the day then", x.day(), 501);
        Conformary y = atDay4600();
        Check.is("up to the last", y.pass(400), 5000);
        Check.is("the last", y.day(), 5000);
        Check.is("not one more", Check.answer(y, c -> c.pass(1)), "IllegalStateException");
        Check.is("the last still", y.day(), 5000);
    }

    private static Conformary atDay4600() {
        Conformary x = market();
        for (int i = 0; i < 9; i++) {
            x.pass(500);
        }
        x.pass(97);
        return x;
    }

    private static void passRefuses() {
        for (int wrong : new int[] {0, 501, -1, LOW, HIGH}) {
            Check.argument("pass " + wrong, MarketTest::market, c -> c.pass(wrong));
            Check.argument("pass " + wrong + " near the end", MarketTest::atDay4600, c -> c.pass(wrong));
        }
        Check.state("pass beyond the end", MarketTest::atDay4600, c -> c.pass(401));
        Check.state("pass the most beyond the end", MarketTest::atDay4600, c -> c.pass(500));
    }

    private static void batchOfAnswers() {
        Conformary x = market();
        x.change(1, 3);
        x.pass(4);
        x.risk(1, 0, 9, 5);
        x.post(1, 60);
        int[] due = {1, 60, 7, 3, 2, 0, -1, 0, 0};
        for (int what = 0; what <= 8; what++) {
            Check.is("a new batch's " + what, x.batchOf(3, what), due[what]);
        }
        x.sample(3, 9, 9, 9);
        x.event(3, 2, 4);
        x.recall(1, 3, 3);
        x.change(1, 1);
        x.pass(1);
        int[] then = {1, 60, 7, 3, 2, 1, 1, 4, 4};
        for (int what = 0; what <= 8; what++) {
            Check.is("the batch's " + what + " then", x.batchOf(3, what), then[what]);
        }
        Check.is("the version of an older one", x.batchOf(1, 3), 1);
        Check.is("the day of an older one", x.batchOf(1, 2), 3);
    }

    private static void askedRefuse() {
        for (int wrong : NO_BATCH) {
            Check.index("batchOf batch " + wrong, MarketTest::market, c -> c.batchOf(wrong, 0));
            Check.index("wantingAnew of batch " + wrong, MarketTest::market, c -> c.wantingAnew(wrong));
        }
        for (int wrong : new int[] {9, -1, LOW, HIGH}) {
            Check.argument("batchOf what " + wrong, MarketTest::market, c -> c.batchOf(0, wrong));
            Check.index("no batch and what " + wrong, MarketTest::market, c -> c.batchOf(3, wrong));
        }
    }

    private static void wantingAnewAnswers() {
        Conformary x = market();
        Check.is("nothing", x.wantingAnew(0), 0);
        Check.is("a demand was not kept", x.wantingAnew(1), 3);
        x.prove(1, 1);
        Check.is("what is told later the same day does not count", x.wantingAnew(1), 3);
        x.post(1, 1);
        Check.is("the declaration", x.wantingAnew(3), 6);
        x.declare(1);
        x.place(1, 1);
        Check.is("nothing then", x.wantingAnew(4), 0);
        x.act(3, 0, 255, 0);
        x.special(1, 0);
        x.standard(255, 0);
        x.withdraw(0, 3);
        x.pass(10);
        x.withdraw(0, 5000);
        x.ban(0, 0, true);
        x.ban(1, 0, true);
        x.ban(2, 0, true);
        x.risk(1, 0, 9, 9);
        x.recall(1, 0, 4);
        int[] due = {0, 3, 0, 6, 0};
        for (int batch = 0; batch < due.length; batch++) {
            Check.is("batch " + batch + " later", x.wantingAnew(batch), due[batch]);
            Check.is("batch " + batch + " as it is known", x.batchOf(batch, 4), due[batch]);
        }
        x.post(0, 1);
        Check.is("banned", x.wantingAnew(5), 1);
        x.post(1, 1);
        Check.is("too risky", x.wantingAnew(6), 2);
    }
}
