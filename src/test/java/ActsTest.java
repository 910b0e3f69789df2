/** Promises 1 to 6 and 26: a new object, acts and standards. */
public final class ActsTest {
    private static final int LOW = Integer.MIN_VALUE, HIGH = Integer.MAX_VALUE;

    public static void main(String[] args) {
        newObject();
        actAnswers();
        actRefuses();
        actIsForAProduct();
        specialAnswers();
        specialRefuses();
        specialGoesAhead();
        standardAnswers();
        standardRefuses();
        standardIsListed();
        withdrawAnswers();
        withdrawRefuses();
        withdrawEndsTheList();
        restrictAnswers();
        restrictRefuses();
        appliesRefuses();
        Check.end("ActsTest");
    }

    /** Three acts and a product with the functions 0 and 1. */
    private static Conformary threeActs() {
        Conformary x = new Conformary();
        x.act(1, 0, 1, 0);
        x.act(2, 0, 2, 0);
        x.act(3, 0, 4, 0);
        x.product(3);
        return x;
    }

    private static Conformary sixActs() {
        Conformary x = threeActs();
        x.act(4, 0, 1, 0);
        x.act(4, 0, 1, 0);
        x.act(4, 0, 1, 0);
        return x;
    }

    /** A chain: act 1 is more special than act 0, act 2 more than act 1. */
    private static Conformary chain() {
        Conformary x = threeActs();
        x.special(1, 0);
        x.special(2, 1);
        return x;
    }

    private static Conformary twoStandards() {
        Conformary x = new Conformary();
        x.standard(7, 0);
        x.standard(255, 20);
        x.pass(10);
        return x;
    }

    /** An act that demands the hazards 0 and 1, a product with risks in them, and a followed standard. */
    private static Conformary followed(int from) {
        Conformary x = new Conformary();
        x.act(1, 0, 3, 0);
        x.product(1);
        x.risk(0, 0, 2, 2);
        x.risk(0, 1, 2, 2);
        x.standard(3, from);
        x.follow(0, 0, 3);
        return x;
    }

    private static void newObject() {
        Conformary x = new Conformary();
        Check.is("a new object's day", x.day(), 0);
        Check.index("no act at first", Conformary::new, c -> c.special(0, 0));
        Check.index("no standard at first", Conformary::new, c -> c.withdraw(0, 0));
        Check.index("no product at first", Conformary::new, c -> c.wanting(0));
        Check.index("no body at first", Conformary::new, c -> c.suspend(0, true));
        Check.index("no batch at first", Conformary::new, c -> c.wantingAnew(0));
        Check.is("the first act", x.act(1, 0, 1, 0), 0);
        Check.is("the first standard", x.standard(1, 0), 0);
        Check.is("the first product", x.product(1), 0);
        Check.is("the first body", x.body(1), 0);
        Check.is("the first batch", x.post(0, 1), 0);
        Check.index("another object knows nothing of it", Conformary::new, c -> c.way(0));
    }

    private static void actAnswers() {
        Conformary x = new Conformary();
        Check.is("act 0", x.act(1, 0, 1, 0), 0);
        Check.is("act 1", x.act(255, 255, 255, 5000), 1);
        Check.is("act 2", x.act(255, 0, 255, 0), 2);
        Check.is("act 3", x.act(1, 0, 1, 0), 3);
        Check.is("act 4", x.act(1, 0, 1, 0), 4);
        Check.is("act 5", x.act(1, 0, 1, 0), 5);
    }

    private static void actRefuses() {
        for (int wrong : new int[] {0, 256, -1, LOW, HIGH}) {
            Check.argument("scope " + wrong, ActsTest::threeActs, c -> c.act(wrong, 0, 1, 0));
            Check.argument("demands " + wrong, ActsTest::threeActs, c -> c.act(1, 0, wrong, 0));
        }
        for (int wrong : new int[] {256, -1, LOW, HIGH}) {
            Check.argument("without " + wrong, ActsTest::threeActs, c -> c.act(1, wrong, 1, 0));
        }
        for (int wrong : new int[] {5001, -1, LOW, HIGH}) {
            Check.argument("from " + wrong, ActsTest::threeActs, c -> c.act(1, 0, 1, wrong));
        }
        Check.state("a 7th act", ActsTest::sixActs, c -> c.act(1, 0, 1, 0));
        Check.argument("a 7th act that is wrong", ActsTest::sixActs, c -> c.act(0, 0, 1, 0));
        Check.argument("a 7th act from too late", ActsTest::sixActs, c -> c.act(1, 0, 1, 5001));
    }

    private static void actIsForAProduct() {
        Conformary x = new Conformary();
        x.act(6, 8, 1, 3);
        Check.is("one function of the scope", x.product(2), 0);
        Check.is("all and others", x.product(7), 1);
        Check.is("no function of the scope", x.product(1), 2);
        Check.is("one without which it is", x.product(10), 3);
        x.pass(2);
        Check.is("not in force yet", x.applies(0, 0), false);
        x.pass(1);
        Check.is("in force", x.applies(0, 0), true);
        Check.is("for functions in common", x.applies(0, 1), true);
        Check.is("not for other functions", x.applies(0, 2), false);
        Check.is("not with one without which it is", x.applies(0, 3), false);
        x.pass(500);
        Check.is("in force without end", x.applies(0, 0), true);
    }

    private static void specialAnswers() {
        Conformary x = threeActs();
        Check.is("was not so", x.special(1, 0), true);
        Check.is("was so", x.special(1, 0), false);
        Check.is("of another", x.special(2, 1), true);
        Check.is("was so over another alone", x.special(2, 0), true);
        Check.is("was so directly", x.special(2, 0), false);
    }

    private static void specialRefuses() {
        for (int wrong : new int[] {3, -1, 6, 32, LOW, HIGH}) {
            Check.index("special of act " + wrong, ActsTest::chain, c -> c.special(wrong, 0));
            Check.index("special than act " + wrong, ActsTest::chain, c -> c.special(0, wrong));
        }
        Check.index("both the same, but none", ActsTest::chain, c -> c.special(3, 3));
        Check.argument("both the same", ActsTest::chain, c -> c.special(1, 1));
        Check.state("the other way round", ActsTest::chain, c -> c.special(0, 1));
        Check.state("the other way round, 2", ActsTest::chain, c -> c.special(1, 2));
        Check.state("over another", ActsTest::chain, c -> c.special(0, 2));
        Conformary ring = threeActs();
        ring.special(1, 0);
        ring.special(0, 2);
        Check.is("over the first one", Check.answer(ring, c -> c.special(2, 1)), "IllegalStateException");
        Check.is("the way that it is", ring.special(1, 2), true);
        Conformary x = sixActs();
        for (int act = 5; act > 0; act--) {
            Check.is("link " + act, x.special(act - 1, act), true);
        }
        Check.is("over all six", Check.answer(x, c -> c.special(5, 0)), "IllegalStateException");
        Conformary y = sixActs();
        for (int act = 5; act > 0; act--) {
            Check.is("link back " + act, y.special(act, act - 1), true);
        }
        Check.is("back over all six", Check.answer(y, c -> c.special(0, 5)), "IllegalStateException");
        Check.is("along the chain", y.special(5, 0), true);
    }

    private static void specialGoesAhead() {
        Conformary x = chain();
        Check.is("act 0 behind act 1", x.applies(0, 0), false);
        Check.is("act 1 behind act 2", x.applies(1, 0), false);
        Check.is("act 2 ahead", x.applies(2, 0), true);
        x.product(1);
        Check.is("act 1 is not for it, so act 0 applies, though act 2 is", x.applies(0, 1), true);
        Check.is("act 2 as well", x.applies(2, 1), true);
        Check.is("demands of acts that apply", x.demands(0, false), 0);
        x.risk(0, 0, 1, 1);
        x.risk(0, 1, 1, 1);
        x.risk(0, 2, 1, 1);
        Check.is("demands of act 2 alone", x.demands(0, false), 4);
        Conformary two = threeActs();
        two.special(1, 0);
        two.special(2, 0);
        Check.is("the first of two more special ones is so still", two.special(1, 0), false);
        two.product(1);
        two.act(1, 0, 8, 0);
        two.special(3, 0);
        Check.is("one of three more special ones is for it", two.applies(0, 1), false);
        Check.is("the last one is ahead", two.applies(3, 1), true);
        Conformary y = new Conformary();
        y.act(1, 0, 1, 0);
        y.act(1, 0, 1, 5);
        y.product(1);
        y.special(1, 0);
        Check.is("the special one is not in force", y.applies(0, 0), true);
        y.pass(5);
        Check.is("the special one is in force", y.applies(0, 0), false);
    }

    private static void standardAnswers() {
        Conformary x = new Conformary();
        for (int standard = 0; standard < 12; standard++) {
            Check.is("standard " + standard, x.standard(standard == 0 ? 255 : standard, standard == 1 ? 5000 : 0), standard);
        }
    }

    private static Conformary twelveStandards() {
        Conformary x = new Conformary();
        for (int standard = 0; standard < 12; standard++) {
            x.standard(1, 0);
        }
        return x;
    }

    private static void standardRefuses() {
        for (int wrong : new int[] {0, 256, -1, LOW, HIGH}) {
            Check.argument("hazards " + wrong, ActsTest::twoStandards, c -> c.standard(wrong, 0));
        }
        for (int wrong : new int[] {5001, -1, LOW, HIGH}) {
            Check.argument("listed from " + wrong, ActsTest::twoStandards, c -> c.standard(1, wrong));
        }
        Check.state("a 13th standard", ActsTest::twelveStandards, c -> c.standard(1, 0));
        Check.argument("a 13th standard that is wrong", ActsTest::twelveStandards, c -> c.standard(0, 0));
        Check.argument("a 13th standard from too late", ActsTest::twelveStandards, c -> c.standard(1, 5001));
    }

    private static void standardIsListed() {
        Conformary x = followed(4);
        x.pass(3);
        Check.is("not listed yet", x.demands(0, true), 0);
        x.pass(1);
        Check.is("listed", x.demands(0, true), 3);
        x.pass(500);
        Check.is("listed without end", x.demands(0, true), 3);
    }

    private static void withdrawAnswers() {
        Conformary x = twoStandards();
        Check.is("was without end", x.withdraw(0, 10), -1);
        Check.is("was today", x.withdraw(0, 5000), 10);
        Check.is("was the last of all", x.withdraw(0, 30), 5000);
        Check.is("the other one was without end", x.withdraw(1, 11), -1);
    }

    private static void withdrawRefuses() {
        for (int wrong : new int[] {2, -1, 12, LOW, HIGH}) {
            Check.index("withdraw standard " + wrong, ActsTest::twoStandards, c -> c.withdraw(wrong, 10));
        }
        for (int wrong : new int[] {9, 5001, -1, 0, LOW, HIGH}) {
            Check.argument("withdraw on day " + wrong, ActsTest::twoStandards, c -> c.withdraw(0, wrong));
        }
        Check.index("no standard and no day", ActsTest::twoStandards, c -> c.withdraw(2, 9));
    }

    private static void withdrawEndsTheList() {
        Conformary x = followed(0);
        x.withdraw(0, 5);
        x.pass(5);
        Check.is("the last day is included", x.demands(0, true), 3);
        Check.is("nothing but the declaration is wanting", x.wanting(0), 6);
        x.pass(1);
        Check.is("listed no more", x.demands(0, true), 0);
        Check.is("a demand is not kept", x.wanting(0), 3);
        Check.is("taken back later", x.withdraw(0, 9), 5);
        Check.is("listed again", x.demands(0, true), 3);
        Conformary y = followed(8);
        y.withdraw(0, 6);
        y.pass(7);
        Check.is("never listed, between", y.demands(0, true), 0);
        y.pass(1);
        Check.is("never listed, from the day on", y.demands(0, true), 0);
    }

    private static void restrictAnswers() {
        Conformary x = followed(0);
        Check.is("one hazard less", x.restrict(0, 1), 2);
        Check.is("kept in the other one", x.demands(0, true), 2);
        Check.is("what it is not for", x.restrict(0, 252), 2);
        Check.is("once more", x.restrict(0, 1), 2);
        Check.is("all", x.restrict(0, 255), 0);
        Check.is("kept in none", x.demands(0, true), 0);
        Check.is("the file follows it still", x.follow(0, 0, 0), 3);
    }

    private static void restrictRefuses() {
        for (int wrong : new int[] {2, -1, 12, LOW, HIGH}) {
            Check.index("restrict standard " + wrong, ActsTest::twoStandards, c -> c.restrict(wrong, 1));
        }
        for (int wrong : new int[] {0, 256, -1, LOW, HIGH}) {
            Check.argument("restrict hazards " + wrong, ActsTest::twoStandards, c -> c.restrict(0, wrong));
        }
        Check.index("no standard and no hazards", ActsTest::twoStandards, c -> c.restrict(2, 0));
    }

    private static void appliesRefuses() {
        for (int wrong : new int[] {3, -1, 6, 32, LOW, HIGH}) {
            Check.index("applies act " + wrong, ActsTest::threeActs, c -> c.applies(wrong, 0));
        }
        for (int wrong : new int[] {1, -1, 10, LOW, HIGH}) {
            Check.index("applies to product " + wrong, ActsTest::threeActs, c -> c.applies(0, wrong));
        }
    }
}
