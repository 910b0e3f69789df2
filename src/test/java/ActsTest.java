/** Promises 1 to 6 and 26: a new object, acts and standards. */
public final class ActsTest {
    public static void main(String[] args) throws IllegalAccessException {
        Sentences.run(ActsTest.class);
    }

    private static final Check.Call ACT = c -> c.act(2, 0, 1, 0);
    private static final Check.Call STANDARD = c -> c.standard(1, 0);

    // ---- promise 1

    @Sentence(promise = 1, value = "`Conformary()`: No acts, standards, products, bodies and batches; the day 0.")
    static void aNewObjectHasNothing() {
        Check.is("the day", new Conformary().day(), 0);
        Check.index("no act", Conformary::new, c -> c.special(0, 0));
        Check.index("no standard", Conformary::new, c -> c.withdraw(0, 0));
        Check.index("no product", Conformary::new, c -> c.wanting(0));
        Check.index("no body", Conformary::new, c -> c.suspend(0, true));
        Check.index("no batch", Conformary::new, c -> c.wantingAnew(0));
        Conformary x = new Conformary();
        Check.is("the first act", x.act(1, 0, 1, 0), 0);
        Check.is("the first standard", x.standard(1, 0), 0);
        Check.is("the first product", x.product(1), 0);
        Check.is("the first body", x.body(1), 0);
        Check.is("the first batch", x.post(0, 1), 0);
    }

    @Sentence(promise = 1, value = "`Conformary()`: No acts, standards, products, bodies and batches; the day 0.")
    static void aNewObjectKnowsNothingOfAnother() {
        Conformary other = Given.atDay(Given.full(), 100);
        Conformary x = new Conformary();
        Check.is("the day", x.day(), 0);
        Check.is("the first product", x.product(1), 0);
        Check.is("no act is for it", x.demands(0, false) + x.way(0), 0);
        Check.is("the other one's day", other.day(), 100);
        Check.is("the other one's functions", other.productOf(0, 0), 1);
    }

    // ---- promise 2: act

    @Sentence(promise = 2, value = "Tells an act.")
    static void actTellsAnAct() {
        Conformary x = new Conformary();
        x.product(1);
        x.risk(0, 0, 1, 1);
        Check.is("no demand ahead of it", x.demands(0, false), 0);
        x.act(1, 0, 1, 0);
        Check.is("its demand", x.demands(0, false), 1);
        x.act(1, 0, 1, 0);
        Check.is("the same once more is another one", x.applies(1, 0), true);
    }

    @Sentence(promise = 2, value = "- `scope`: 1 to 255: functions")
    static void actScopeIs1To255() {
        Check.range("scope", Given::threeActs, 1, 255, scope -> c -> c.act(scope, 0, 1, 0));
        Conformary x = new Conformary();
        x.act(1, 0, 1, 0);
        x.act(255, 0, 1, 0);
        x.product(1);
        x.product(254);
        x.product(128);
        Check.is("the lowest, for function 0", x.applies(0, 0), true);
        Check.is("the lowest, for all others", x.applies(0, 1), false);
        Check.is("the highest, for function 0", x.applies(1, 0), true);
        Check.is("the highest, for function 7", x.applies(1, 2), true);
    }

    @Sentence(promise = 2, value = "- `without`: 0 to 255: functions without which it is")
    static void actWithoutIs0To255() {
        Check.range("without", Given::threeActs, 0, 255, without -> c -> c.act(1, without, 1, 0));
        Conformary x = new Conformary();
        x.act(255, 0, 1, 0);
        x.act(255, 255, 1, 0);
        x.act(255, 254, 1, 0);
        x.product(255);
        x.product(1);
        Check.is("the lowest, for all", x.applies(0, 0), true);
        Check.is("the highest, for none", x.applies(1, 0), false);
        Check.is("the highest, for function 0 alone neither", x.applies(1, 1), false);
        Check.is("but for one", x.applies(2, 1), true);
    }

    @Sentence(promise = 2, value = "- `demands`: 1 to 255: hazards")
    static void actDemandsAre1To255() {
        Check.range("demands", Given::threeActs, 1, 255, demands -> c -> c.act(1, 0, demands, 0));
        Conformary x = new Conformary();
        x.product(1);
        for (int hazard = 0; hazard < 8; hazard++) {
            x.risk(0, hazard, 1, 1);
        }
        x.act(1, 0, 1, 0);
        Check.is("the lowest", x.demands(0, false), 1);
        x.act(1, 0, 255, 0);
        Check.is("the highest", x.demands(0, false), 255);
    }

    @Sentence(promise = 2, value = "- `from`: 0 to 5000: the day from which it is in force")
    static void actFromIs0To5000() {
        Check.range("from", Given::threeActs, 0, 5000, from -> c -> c.act(1, 0, 1, from));
        Conformary x = new Conformary();
        x.product(1);
        x.act(1, 0, 1, 0);
        x.act(1, 0, 1, 1);
        x.act(1, 0, 1, 5000);
        Check.is("the first day, at once", x.applies(0, 0), true);
        Check.is("the second day, not yet", x.applies(1, 0), false);
        Given.atDay(x, 4999);
        Check.is("the last day, not yet", x.applies(2, 0), false);
        x.pass(1);
        Check.is("the last day", x.applies(2, 0), true);
        x.act(1, 0, 1, 0);
        Check.is("a day that is over, at once", x.applies(3, 0), true);
    }

    @Sentence(promise = 2, value = "Returns its number.")
    static void actReturnsItsNumber() {
        Conformary x = new Conformary();
        for (int act = 0; act < 6; act++) {
            Check.is("act " + act, x.act(1 + act, 255 - act, 1, 5000 * (act % 2)), act);
        }
    }

    @Sentence(promise = 2, value = "Throws `IllegalArgumentException` if an argument is out of range")
    static void actRefusesWhatIsOutOfRange() {
        Check.argument("all too small", Given::threeActs, c -> c.act(0, -1, 0, -1));
        Check.argument("all too large", Given::threeActs, c -> c.act(256, 256, 256, 5001));
        Check.argument("all too small for the first one", Conformary::new, c -> c.act(0, -1, 0, -1));
        for (int wrong = 0; wrong < 4; wrong++) {
            int which = wrong;
            Check.argument("a 7th act, argument " + wrong + " is wrong", Given::full,
                    c -> c.act(which == 0 ? 0 : 1, which == 1 ? 256 : 0, which == 2 ? 0 : 1, which == 3 ? 5001 : 0));
        }
    }

    @Sentence(promise = 2, value = "Throws `IllegalStateException` if there are 6")
    static void actRefusesASeventh() {
        Conformary x = Given.threeActs();
        x.act(1, 0, 1, 0);
        x.act(1, 0, 1, 0);
        Check.is("the 6th", Check.answer(x, ACT), 5);
        Check.is("the 7th", Check.answer(x, ACT), "IllegalStateException");
        Check.is("the 7th once more", Check.answer(x, ACT), "IllegalStateException");
        Check.state("a 7th of all", Given::full, ACT);
        Check.state("a 7th on the last day", () -> Given.atDay(Given.full(), 5000), ACT);
    }

    // ---- promise 3: special

    @Sentence(promise = 3, value = "Tells that an act is more special than another one.")
    static void specialTellsThatTheFirstIsMoreSpecial() {
        Conformary x = Given.threeActs();
        x.special(0, 2);
        Check.is("the more special one", x.applies(0, 0), true);
        Check.is("the other one", x.applies(2, 0), false);
    }

    @Sentence(promise = 3, value = {"- `act`: its number", "- `other`: another one"})
    static void specialTakesEachNumber() {
        Check.numbers("act", 6, act -> c -> c.special(act, 0));
        Check.numbers("other", 6, other -> c -> c.special(0, other));
        for (int act = 0; act < 6; act++) {
            for (int other = 0; other < 6; other++) {
                int first = act;
                int second = other;
                Object due = act == other ? "IllegalArgumentException" : true;
                Check.is(act + " than " + other, Check.answer(Given.full(), c -> c.special(first, second)), due);
            }
        }
    }

    @Sentence(promise = 3, value = "Returns whether it was not so.")
    static void specialReturnsWhetherItWasNotSo() {
        Conformary x = Given.threeActs();
        Check.is("was not so", x.special(1, 0), true);
        Check.is("was so", x.special(1, 0), false);
        Check.is("of another", x.special(2, 1), true);
        Check.is("was so over another alone", x.special(2, 0), true);
        Check.is("was so directly", x.special(2, 0), false);
        Check.is("the first is so still", x.special(1, 0), false);
        Check.is("the second is so still", x.special(2, 1), false);
        x.pass(1);
        Check.is("later too", x.special(1, 0), false);
    }

    @Sentence(promise = 3, value = "Throws `IndexOutOfBoundsException` if there is no such act, of both")
    static void specialRefusesNoSuchActOfBoth() {
        Check.index("none, and 0", Given::chain, c -> c.special(3, 0));
        Check.index("0, and none", Given::chain, c -> c.special(0, 3));
        Check.index("none of both", Given::chain, c -> c.special(3, 4));
        Check.index("none, both the same", Given::chain, c -> c.special(3, 3));
        Check.index("-1, both the same", Given::chain, c -> c.special(-1, -1));
        Check.index("the 7th of all, both the same", Given::full, c -> c.special(6, 6));
        Check.index("without acts", Conformary::new, c -> c.special(0, 1));
    }

    @Sentence(promise = 3, value = "Throws `IllegalArgumentException` if both are the same")
    static void specialRefusesTheSame() {
        for (int act = 0; act < 3; act++) {
            int same = act;
            Check.argument("act " + act, Given::chain, c -> c.special(same, same));
        }
        Check.argument("the last of all", Given::full, c -> c.special(5, 5));
    }

    @Sentence(promise = 3, value = "Throws `IllegalStateException` if the other one is told to be more special than it, directly")
    static void specialRefusesTheOtherWayRound() {
        Check.state("the other way round", Given::chain, c -> c.special(0, 1));
        Check.state("the other way round, of the next", Given::chain, c -> c.special(1, 2));
        Conformary x = Given.threeActs();
        x.special(0, 1);
        Check.is("a lower one", Check.answer(x, c -> c.special(1, 0)), "IllegalStateException");
        Check.is("nor is it told then", x.special(0, 1), false);
        Check.is("of a third one", x.special(2, 1), true);
        Check.is("of two with the same below them", x.special(0, 2), true);
    }

    @Sentence(promise = 3, value = "if the other one is told to be more special than it, directly or over others")
    static void specialRefusesARingOverOthers() {
        Check.state("over another", Given::chain, c -> c.special(0, 2));
        Conformary ring = Given.threeActs();
        ring.special(1, 0);
        ring.special(0, 2);
        Check.is("over the first one", Check.answer(ring, c -> c.special(2, 1)), "IllegalStateException");
        Check.is("the way that it is", ring.special(1, 2), true);
    }

    @Sentence(promise = 3, value = "if the other one is told to be more special than it, directly or over others")
    static void specialRefusesARingOverAllSix() {
        for (int turn = 0; turn < 6; turn++) {
            int first = turn;
            Check.state("upward, from " + turn, () -> sixInARow(first, 1), c -> c.special((first + 5) % 6, first));
            Check.state("downward, from " + turn, () -> sixInARow(first, 5), c -> c.special((first + 25) % 6, first));
            Conformary x = sixInARow(turn, 1);
            for (int link = 0; link < 5; link++) {
                int act = (first + link) % 6;
                Check.is("link " + link + " of " + turn, x.special(act, (act + 1) % 6), false);
            }
            Check.is("along the row, from " + turn, x.special(first, (first + 5) % 6), true);
        }
    }

    /** Six acts, each, from the first on, more special than the one that so many numbers follow it, round. */
    private static Conformary sixInARow(int first, int step) {
        Conformary x = Given.full();
        for (int link = 0; link < 5; link++) {
            x.special((first + link * step) % 6, (first + (link + 1) * step) % 6);
        }
        return x;
    }

    @Sentence(promise = 3, value = "if the other one is told to be more special than it, directly or over others")
    static void specialRefusesARingWhateverIsForAProduct() {
        Conformary x = new Conformary();
        x.act(1, 0, 1, 5000);
        x.act(1, 1, 1, 0);
        x.act(2, 0, 1, 0);
        x.special(0, 1);
        x.special(1, 2);
        Check.is("none of them in force or for the same", Check.answer(x, c -> c.special(2, 0)), "IllegalStateException");
    }

    // ---- promise 4: standard

    @Sentence(promise = 4, value = "Tells a standard.")
    static void standardTellsAStandard() {
        Conformary x = Given.followed(0);
        x.follow(0, 0, 0);
        x.standard(1, 0);
        Check.is("it is there, and followed in none", x.follow(0, 1, 3), 0);
        Check.is("kept by it", x.demands(0, true), 1);
    }

    @Sentence(promise = 4, value = "- `hazards`: 1 to 255")
    static void standardHazardsAre1To255() {
        Check.range("hazards", Given::twoOfEach, 1, 255, hazards -> c -> c.standard(hazards, 0));
        Conformary x = new Conformary();
        x.standard(1, 0);
        x.standard(255, 0);
        Check.is("the lowest is for hazard 0", x.restrict(0, 254), 1);
        Check.is("the highest is for all", x.restrict(1, 1), 254);
    }

    @Sentence(promise = 4, value = "- `from`: 0 to 5000: the day from which it is listed")
    static void standardFromIs0To5000() {
        Check.range("from", Given::twoOfEach, 0, 5000, from -> c -> c.standard(1, from));
        Check.is("the first day, at once", Given.followed(0).demands(0, true), 3);
        Check.is("the second day, not yet", Given.followed(1).demands(0, true), 0);
        Conformary x = Given.atDay(Given.followed(5000), 4999);
        Check.is("the last day, not yet", x.demands(0, true), 0);
        x.pass(1);
        Check.is("the last day", x.demands(0, true), 3);
        Check.is("from a day that is over", x.standard(3, 7), 1);
        x.follow(0, 0, 0);
        x.follow(0, 1, 2);
        Check.is("at once", x.demands(0, true), 2);
    }

    @Sentence(promise = 4, value = "Returns its number.")
    static void standardReturnsItsNumber() {
        Conformary x = new Conformary();
        for (int standard = 0; standard < 12; standard++) {
            Check.is("standard " + standard, x.standard(standard + 1, standard == 1 ? 5000 : 0), standard);
        }
    }

    @Sentence(promise = 4, value = "Throws `IllegalArgumentException` if an argument is out of range")
    static void standardRefusesWhatIsOutOfRange() {
        Check.argument("both too small", Given::twoOfEach, c -> c.standard(0, -1));
        Check.argument("both too large", Given::twoOfEach, c -> c.standard(256, 5001));
        Check.argument("a 13th for no hazards", Given::full, c -> c.standard(0, 0));
        Check.argument("a 13th from too late", Given::full, c -> c.standard(1, 5001));
    }

    @Sentence(promise = 4, value = "Throws `IllegalStateException` if there are 12")
    static void standardRefusesAThirteenth() {
        Conformary x = new Conformary();
        for (int standard = 0; standard < 11; standard++) {
            x.standard(1, 0);
        }
        Check.is("the 12th", x.standard(1, 0), 11);
        Check.is("the 13th", Check.answer(x, STANDARD), "IllegalStateException");
        x.withdraw(3, 0);
        x.restrict(4, 255);
        x.pass(1);
        Check.is("no place is free by what is withdrawn", Check.answer(x, STANDARD), "IllegalStateException");
        Check.state("a 13th of all", Given::full, STANDARD);
    }

    // ---- promise 5: withdraw

    @Sentence(promise = 5, value = "Tells the last day on which a standard is listed.")
    static void withdrawTellsTheLastDay() {
        Conformary x = Given.followed(0);
        x.withdraw(0, 3);
        x.pass(3);
        Check.is("the last day", x.demands(0, true), 3);
        x.pass(1);
        Check.is("behind it", x.demands(0, true), 0);
        Check.is("told anew", x.withdraw(0, 9), 3);
        Check.is("listed again", x.demands(0, true), 3);
        x.withdraw(0, 4);
        x.pass(1);
        Check.is("told shorter", x.demands(0, true), 0);
    }

    @Sentence(promise = 5, value = "- `standard`: its number")
    static void withdrawTakesEachNumber() {
        Check.numbers("standard", 12, standard -> c -> c.withdraw(standard, 5000));
        Conformary x = Given.full();
        x.withdraw(11, 7);
        Check.is("the one ahead of it", x.withdraw(10, 8), -1);
        Check.is("the last one", x.withdraw(11, 8), 7);
    }

    @Sentence(promise = 5, value = "- `day`: today to 5000")
    static void withdrawDayIsTodayTo5000() {
        Check.range("on day 10, day", Given::twoOfEach, 10, 5000, day -> c -> c.withdraw(0, day));
        Check.range("on the first day, day", Given::full, 0, 5000, day -> c -> c.withdraw(0, day));
        Check.range("on the last day, day", () -> Given.atDay(Given.full(), 5000), 5000, 5000, day -> c -> c.withdraw(0, day));
        Check.argument("the first day, on day 10", Given::twoOfEach, c -> c.withdraw(0, 0));
        Conformary x = Given.followed(0);
        x.withdraw(0, 0);
        Check.is("today is the last", x.demands(0, true), 3);
        x.pass(1);
        Check.is("tomorrow it is not", x.demands(0, true), 0);
        Check.argument("a day ahead of today, though it was that", () -> Given.atDay(withdrawnOn5(), 6), c -> c.withdraw(0, 5));
    }

    private static Conformary withdrawnOn5() {
        Conformary x = Given.followed(0);
        x.withdraw(0, 5);
        return x;
    }

    @Sentence(promise = 5, value = "Returns what it was; NONE if it was without end.")
    static void withdrawReturnsWhatItWas() {
        Conformary x = Given.twoOfEach();
        Check.is("without end", x.withdraw(0, 10), -1);
        Check.is("today", x.withdraw(0, 5000), 10);
        Check.is("the last of all", x.withdraw(0, 30), 5000);
        Check.is("the same", x.withdraw(0, 30), 30);
        x.pass(100);
        Check.is("a day that is over", x.withdraw(0, 110), 30);
        Check.is("the other one, without end", x.withdraw(1, 110), -1);
        Conformary first = Given.followed(0);
        first.withdraw(0, 0);
        Check.is("the first day of all", first.withdraw(0, 1), 0);
    }

    @Sentence(promise = 5, value = "Throws `IndexOutOfBoundsException` if there is no such standard")
    static void withdrawRefusesNoSuchStandard() {
        Check.index("none", Given::twoOfEach, c -> c.withdraw(2, 10));
        Check.index("none, and a day that is over", Given::twoOfEach, c -> c.withdraw(2, 9));
        Check.index("none, and a day behind the last", Given::twoOfEach, c -> c.withdraw(-1, 5001));
        Check.index("a 13th", Given::full, c -> c.withdraw(12, 10));
    }

    @Sentence(promise = 5, value = "Throws `IllegalArgumentException` if day is out of range")
    static void withdrawRefusesADayOutOfRange() {
        Check.argument("yesterday", Given::twoOfEach, c -> c.withdraw(1, 9));
        Check.argument("behind the last of all", Given::twoOfEach, c -> c.withdraw(1, 5001));
        Check.argument("NONE, on the first day", Given::full, c -> c.withdraw(11, -1));
        Check.argument("the day ahead of the last", () -> Given.atDay(Given.full(), 5000), c -> c.withdraw(0, 4999));
    }

    // ---- promise 6: restrict

    @Sentence(promise = 6, value = "Restricts a standard.")
    static void restrictRestrictsThatStandard() {
        Conformary x = Given.followed(0);
        x.standard(3, 0);
        x.follow(0, 1, 1);
        x.restrict(0, 3);
        Check.is("kept by the other one alone", x.demands(0, true), 1);
        x.restrict(1, 1);
        Check.is("kept by none", x.demands(0, true), 0);
        Check.is("the file follows it still", x.follow(0, 0, 0), 3);
    }

    @Sentence(promise = 6, value = "- `standard`: its number")
    static void restrictTakesEachNumber() {
        Check.numbers("standard", 12, standard -> c -> c.restrict(standard, 1));
        Conformary x = Given.full();
        x.restrict(11, 1);
        Check.is("the one ahead of it", x.restrict(10, 2), 253);
        Check.is("the last one", x.restrict(11, 2), 252);
    }

    @Sentence(promise = 6, value = "- `hazards`: 1 to 255: those that it is for no more")
    static void restrictHazardsAre1To255() {
        Check.range("hazards", Given::twoOfEach, 1, 255, hazards -> c -> c.restrict(0, hazards));
        Check.is("the lowest", Given.twoOfEach().restrict(0, 1), 254);
        Check.is("the highest", Given.twoOfEach().restrict(0, 255), 0);
        Check.is("the last hazard", Given.twoOfEach().restrict(0, 128), 127);
    }

    @Sentence(promise = 6, value = "Returns the hazards that it is for then.")
    static void restrictReturnsTheHazardsThen() {
        Conformary x = Given.followed(0);
        Check.is("one less", x.restrict(0, 1), 2);
        Check.is("those that it is not for", x.restrict(0, 252), 2);
        Check.is("once more", x.restrict(0, 1), 2);
        Check.is("both", x.restrict(0, 3), 0);
        Check.is("none", x.restrict(0, 255), 0);
        Check.is("listed no more, restricted still", Given.atDay(withdrawnOn5(), 6).restrict(0, 1), 2);
    }

    @Sentence(promise = 6, value = "Throws `IndexOutOfBoundsException` if there is no such standard")
    static void restrictRefusesNoSuchStandard() {
        Check.index("none", Given::twoOfEach, c -> c.restrict(2, 1));
        Check.index("none, and no hazards", Given::twoOfEach, c -> c.restrict(2, 0));
        Check.index("a 13th, and too many hazards", Given::full, c -> c.restrict(12, 256));
    }

    @Sentence(promise = 6, value = "Throws `IllegalArgumentException` if hazards are out of range")
    static void restrictRefusesHazardsOutOfRange() {
        Check.argument("no hazards", Given::twoOfEach, c -> c.restrict(1, 0));
        Check.argument("too many hazards", Given::twoOfEach, c -> c.restrict(1, 256));
        Check.argument("less than none", Given::full, c -> c.restrict(11, -1));
    }

    // ---- promise 26: applies

    @Sentence(promise = 26, value = "Returns whether an act applies to a product today.")
    static void appliesReturnsWhetherAnActAppliesToday() {
        Conformary x = new Conformary();
        x.act(1, 0, 1, 1);
        x.product(1);
        x.product(2);
        Check.is("the day ahead", x.applies(0, 0), false);
        x.pass(1);
        Check.is("today", x.applies(0, 0), true);
        Check.is("to another product", x.applies(0, 1), false);
        x.change(1, 3);
        Check.is("to that one, changed", x.applies(0, 1), true);
        Check.is("without a risk, so without a demand", x.demands(0, false), 0);
        Given.atDay(x, 5000);
        Check.is("on the last day", x.applies(0, 0), true);
    }

    @Sentence(promise = 26, value = {"- `act`: its number", "- `product`: its number"})
    static void appliesTakesEachNumber() {
        Check.numbers("act", 6, act -> c -> c.applies(act, 0));
        Check.numbers("product", 10, product -> c -> c.applies(0, product));
        for (int act = 0; act < 6; act++) {
            for (int product = 0; product < 10; product++) {
                Check.is(act + " to " + product, Given.full().applies(act, product), true);
            }
        }
    }

    @Sentence(promise = 26, value = "Throws `IndexOutOfBoundsException` if there is no such act or product")
    static void appliesRefusesNoSuchActOrProduct() {
        Check.index("no act", Given::twoOfEach, c -> c.applies(2, 0));
        Check.index("no product", Given::twoOfEach, c -> c.applies(0, 2));
        Check.index("neither", Given::twoOfEach, c -> c.applies(-1, -1));
        Check.index("a 7th act", Given::full, c -> c.applies(6, 9));
        Check.index("an 11th product", Given::full, c -> c.applies(5, 10));
    }
}
