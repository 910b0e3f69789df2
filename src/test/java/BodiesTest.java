/** Promises 13 to 17: bodies, certificates and visits. */
public final class BodiesTest {
    private static final int LOW = Integer.MIN_VALUE, HIGH = Integer.MAX_VALUE;

    public static void main(String[] args) {
        bodyAnswers();
        bodyRefuses();
        suspendAnswers();
        suspendRefuses();
        suspensionEndsCertificates();
        certifyAnswers();
        certifyRefuses();
        certificateHolds();
        transferAnswers();
        transferRefuses();
        visitAnswers();
        visitRefuses();
        visitCounts();
        Check.end("BodiesTest");
    }

    /**
     * A product of the way TYPE under act 0, kept; body 0 with act 0, body 1 without it, body 2
     * suspended since day 7, body 3 with all acts. It is day 7.
     */
    private static Conformary market() {
        Conformary x = new Conformary();
        x.act(1, 0, 1, 0);
        x.product(1);
        x.risk(0, 0, 6, 4);
        x.prove(0, 1);
        x.body(1);
        x.body(62);
        x.body(63);
        x.body(63);
        x.pass(7);
        x.suspend(2, true);
        return x;
    }

    private static Conformary certified() {
        Conformary x = market();
        x.certify(0, 0, 1000);
        return x;
    }

    private static Conformary banned() {
        Conformary x = market();
        x.ban(0, 0, true);
        x.ban(2, 0, true);
        x.ban(4, 0, true);
        return x;
    }

    private static Conformary risky() {
        Conformary x = market();
        x.risk(0, 0, 6, 5);
        x.prove(0, 1);
        return x;
    }

    private static Conformary unproved() {
        Conformary x = market();
        x.change(0, 3);
        return x;
    }

    private static void bodyAnswers() {
        Conformary x = new Conformary();
        Check.is("body 0", x.body(1), 0);
        Check.is("body 1", x.body(63), 1);
        Check.is("body 2", x.body(32), 2);
        Check.is("body 3", x.body(1), 3);
        Check.is("body 4", x.body(1), 4);
    }

    private static Conformary fiveBodies() {
        Conformary x = market();
        x.body(1);
        return x;
    }

    private static void bodyRefuses() {
        for (int wrong : new int[] {0, 64, -1, LOW, HIGH}) {
            Check.argument("body of acts " + wrong, BodiesTest::market, c -> c.body(wrong));
        }
        Check.state("a 6th body", BodiesTest::fiveBodies, c -> c.body(1));
        Check.argument("a 6th body that is wrong", BodiesTest::fiveBodies, c -> c.body(64));
    }

    private static void suspendAnswers() {
        Conformary x = market();
        Check.is("was not, is not", x.suspend(0, false), false);
        Check.is("was not, is", x.suspend(0, true), false);
        Check.is("was, is", x.suspend(0, true), true);
        Check.is("was, is not", x.suspend(0, false), true);
        Check.is("was not", x.suspend(0, false), false);
        Check.is("the other one was", x.suspend(2, true), true);
    }

    private static void suspendRefuses() {
        for (int wrong : new int[] {4, -1, 5, LOW, HIGH}) {
            Check.index("suspend body " + wrong, BodiesTest::market, c -> c.suspend(wrong, true));
            Check.index("take up body " + wrong, BodiesTest::market, c -> c.suspend(wrong, false));
        }
    }

    private static void suspensionEndsCertificates() {
        Conformary x = certified();
        x.suspend(0, true);
        Check.is("on the day itself", x.wanting(0), 6);
        x.pass(40);
        x.suspend(0, true);
        x.pass(60);
        Check.is("on day 100 behind the first", x.wanting(0), 6);
        x.pass(1);
        Check.is("on day 101", x.wanting(0), 4);
        Check.is("the certificate is there still", x.productOf(0, 2), 0);
        x.suspend(0, false);
        Check.is("taken up again", x.wanting(0), 6);
        x.suspend(0, true);
        x.pass(100);
        Check.is("on day 100 behind the second", x.wanting(0), 6);
        x.pass(1);
        Check.is("on day 101 behind the second", x.wanting(0), 4);
    }

    private static void certifyAnswers() {
        Conformary x = market();
        Check.is("the last day", x.certify(0, 0, 1), 8);
        Check.is("its body", x.productOf(0, 2), 0);
        Check.is("its last day", x.productOf(0, 3), 8);
        Check.is("in place of that", x.certify(3, 0, 1000), 1007);
        Check.is("the body then", x.productOf(0, 2), 3);
        Check.is("shorter in place of that", x.certify(3, 0, 5), 12);
        Check.is("the last day then", x.productOf(0, 3), 12);
        x.declare(0);
        Check.is("while nothing is wanting", x.certify(0, 0, 2), 9);
        Check.is("the declaration stays", x.productOf(0, 5), 7);
        Conformary end = market();
        for (int i = 0; i < 9; i++) {
            end.pass(500);
        }
        end.pass(493);
        Check.is("behind the last of all days", end.certify(0, 0, 1000), 6000);
        Conformary free = new Conformary();
        free.product(1);
        free.body(1);
        Check.is("without acts and demands", free.certify(0, 0, 3), 3);
    }

    private static void certifyRefuses() {
        for (int wrong : new int[] {4, -1, 5, LOW, HIGH}) {
            Check.index("certify by body " + wrong, BodiesTest::market, c -> c.certify(wrong, 0, 10));
        }
        for (int wrong : new int[] {1, -1, 10, LOW, HIGH}) {
            Check.index("certify product " + wrong, BodiesTest::market, c -> c.certify(0, wrong, 10));
        }
        for (int wrong : new int[] {0, 1001, -1, LOW, HIGH}) {
            Check.argument("certify days " + wrong, BodiesTest::certified, c -> c.certify(3, 0, wrong));
            Check.argument("suspended, and days " + wrong, BodiesTest::market, c -> c.certify(2, 0, wrong));
            Check.index("no product, and days " + wrong, BodiesTest::market, c -> c.certify(0, 1, wrong));
        }
        Check.state("an act is not in its scope", BodiesTest::certified, c -> c.certify(1, 0, 10));
        Check.state("it is suspended", BodiesTest::certified, c -> c.certify(2, 0, 10));
        Check.state("1 is wanting", BodiesTest::banned, c -> c.certify(0, 0, 10));
        Check.state("2 is wanting", BodiesTest::risky, c -> c.certify(0, 0, 10));
        Check.state("3 is wanting", BodiesTest::unproved, c -> c.certify(0, 0, 10));
    }

    private static void certificateHolds() {
        Conformary x = market();
        Check.is("none", x.wanting(0), 4);
        x.certify(0, 0, 10);
        x.pass(10);
        Check.is("on the last day", x.wanting(0), 6);
        x.pass(1);
        Check.is("behind it", x.wanting(0), 4);
        Check.is("it is there still", x.productOf(0, 3), 17);
        Conformary y = certified();
        y.act(1, 0, 1, 8);
        Check.is("an act that does not apply yet", y.wanting(0), 6);
        y.pass(1);
        Check.is("an act behind the scope applies", y.wanting(0), 4);
        y.special(0, 1);
        Check.is("it applies no more", y.wanting(0), 6);
    }

    private static void transferAnswers() {
        Conformary x = certified();
        Check.is("from body 0", x.transfer(0, 3), 0);
        Check.is("the body then", x.productOf(0, 2), 3);
        Check.is("the last day stays", x.productOf(0, 3), 1007);
        x.suspend(3, true);
        x.pass(101);
        Check.is("it does not hold", x.wanting(0), 4);
        Check.is("from a suspended one", x.transfer(0, 0), 3);
        Check.is("it holds", x.wanting(0), 6);
        Conformary y = market();
        y.certify(0, 0, 5);
        y.pass(6);
        Check.is("one that is over", y.transfer(0, 3), 0);
        Check.is("it is over still", y.wanting(0), 4);
        Check.is("its last day stays", y.productOf(0, 3), 12);
        Conformary z = certified();
        z.ban(0, 0, true);
        z.ban(1, 0, true);
        z.ban(2, 0, true);
        Check.is("of a banned product", z.transfer(0, 3), 0);
    }

    private static void transferRefuses() {
        for (int wrong : new int[] {1, -1, 10, LOW, HIGH}) {
            Check.index("transfer of product " + wrong, BodiesTest::certified, c -> c.transfer(wrong, 3));
        }
        for (int wrong : new int[] {4, -1, 5, LOW, HIGH}) {
            Check.index("transfer to body " + wrong, BodiesTest::certified, c -> c.transfer(0, wrong));
            Check.index("no certificate, no body " + wrong, BodiesTest::market, c -> c.transfer(0, wrong));
        }
        Check.state("no certificate", BodiesTest::market, c -> c.transfer(0, 3));
        Check.state("from that body", BodiesTest::certified, c -> c.transfer(0, 0));
        Check.state("to a suspended one", BodiesTest::certified, c -> c.transfer(0, 2));
        Check.state("to one without the act", BodiesTest::certified, c -> c.transfer(0, 1));
    }

    private static void visitAnswers() {
        Conformary x = certified();
        Check.is("a good one", x.visit(0, true), false);
        Check.is("its day", x.productOf(0, 4), 7);
        x.pass(1);
        Check.is("a bad one", x.visit(0, false), true);
        Check.is("the certificate is no more", x.productOf(0, 2), -1);
        Check.is("nor its last day", x.productOf(0, 3), -1);
        Check.is("the good one stays", x.productOf(0, 4), 7);
        Check.is("no certificate to end", x.visit(0, false), false);
        Check.is("a later good one", x.visit(0, true), false);
        Check.is("the day of that", x.productOf(0, 4), 8);
        Conformary y = market();
        y.certify(0, 0, 1);
        y.pass(2);
        Check.is("one that is over ends", y.visit(0, false), true);
        Conformary z = certified();
        z.declare(0);
        z.visit(0, false);
        Check.is("the declaration stays", z.productOf(0, 5), 7);
        Check.is("so does the version", z.productOf(0, 1), 1);
        Check.is("and the file", z.demands(0, true), 1);
    }

    private static void visitRefuses() {
        for (int wrong : new int[] {1, -1, 10, LOW, HIGH}) {
            Check.index("a good visit of product " + wrong, BodiesTest::certified, c -> c.visit(wrong, true));
            Check.index("a bad visit of product " + wrong, BodiesTest::certified, c -> c.visit(wrong, false));
        }
    }

    private static void visitCounts() {
        Conformary x = market();
        x.risk(0, 0, 7, 4);
        x.prove(0, 1);
        x.certify(0, 0, 1000);
        Check.is("no visit", x.wanting(0), 5);
        x.visit(0, true);
        Check.is("today", x.wanting(0), 6);
        x.pass(365);
        Check.is("on day 365 behind", x.wanting(0), 6);
        x.pass(1);
        Check.is("on day 366 behind", x.wanting(0), 5);
        x.visit(0, false);
        x.certify(0, 0, 1000);
        Check.is("a bad one counts for nothing", x.wanting(0), 5);
        x.visit(0, true);
        Check.is("a good one again", x.wanting(0), 6);
    }
}
