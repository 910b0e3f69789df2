/** Objects in the states that several tests start from. */
final class Given {
    private Given() {
    }

    /**
     * Two of each thing: acts for the functions 0 and 1 that demand the hazards 0 and 1, standards,
     * bodies for all acts, products with the function 0 and no risks, a batch of each. It is day 10.
     */
    static Conformary twoOfEach() {
        Conformary x = new Conformary();
        x.pass(10);
        for (int number = 0; number < 2; number++) {
            x.act(1 << number, 0, 1 << number, 0);
            x.standard(255, 0);
            x.body(63);
            x.product(1);
            x.post(number, 10 + number);
        }
        return x;
    }

    /** As many of each thing as there may be; the acts are for all functions and demand all hazards. */
    static Conformary full() {
        Conformary x = new Conformary();
        for (int act = 0; act < 6; act++) {
            x.act(255, 0, 255, 0);
        }
        for (int standard = 0; standard < 12; standard++) {
            x.standard(255, 0);
        }
        for (int body = 0; body < 5; body++) {
            x.body(63);
        }
        for (int product = 0; product < 10; product++) {
            x.product(1);
        }
        for (int batch = 0; batch < 40; batch++) {
            x.post(batch % 10, 1 + batch);
        }
        return x;
    }

    /** Three acts for the functions 0, 1 and both, demanding the hazards 0, 1 and 2; a product with both. */
    static Conformary threeActs() {
        Conformary x = new Conformary();
        x.act(1, 0, 1, 0);
        x.act(2, 0, 2, 0);
        x.act(3, 0, 4, 0);
        x.product(3);
        return x;
    }

    /** A chain: act 1 is more special than act 0, act 2 more than act 1. */
    static Conformary chain() {
        Conformary x = threeActs();
        x.special(1, 0);
        x.special(2, 1);
        return x;
    }

    /** An act that demands all hazards, a standard and a body for all; a product without risks. */
    static Conformary harmless() {
        Conformary x = new Conformary();
        x.act(255, 0, 255, 0);
        x.standard(255, 0);
        x.body(63);
        x.product(5);
        return x;
    }

    /** A product of the way QUALITY, version 1, to which nothing is wanting. */
    static Conformary fine() {
        Conformary x = lacking(6);
        x.follow(0, 0, 4);
        x.declare(0);
        return x;
    }

    /** A product of the way QUALITY, version 1, to which that is wanting, 0 to 6. */
    static Conformary lacking(int lack) {
        if (lack == 0) {
            return fine();
        }
        Conformary x = harmless();
        x.risk(0, 2, 7, lack == 2 ? 5 : 4);
        x.prove(0, lack == 3 ? 1 : 4);
        if (lack == 1 || lack > 4) {
            x.certify(0, 0, 100);
        }
        if (lack == 1 || lack > 5) {
            x.visit(0, true);
        }
        if (lack == 1) {
            x.declare(0);
            ban(x, 0);
        }
        return x;
    }

    /** Three states are for a ban of the product. */
    static void ban(Conformary x, int product) {
        x.ban(0, product, true);
        x.ban(2, product, true);
        x.ban(4, product, true);
    }

    /** An act that demands the hazards 0 and 1, a product with risks in both, and a standard that it follows. */
    static Conformary followed(int from) {
        Conformary x = new Conformary();
        x.act(1, 0, 3, 0);
        x.product(1);
        x.risk(0, 0, 2, 2);
        x.risk(0, 1, 2, 2);
        x.standard(3, from);
        x.follow(0, 0, 3);
        return x;
    }

    /**
     * A product of the way TYPE under act 0, kept; body 0 with act 0, body 1 without it, body 2
     * suspended since day 7, body 3 with all acts. It is day 7.
     */
    static Conformary bodies() {
        Conformary x = new Conformary();
        x.act(1, 0, 1, 0);
        x.product(1);
        x.risk(0, 0, 6, 4);
        x.prove(0, 1);
        x.body(1);
        x.body(62);
        x.body(63);
        x.body(63);
        x.pass(7);
        x.suspend(2, true);
        return x;
    }

    /** The same with a certificate from body 0 up to day 1007: the declaration alone is wanting. */
    static Conformary certified() {
        Conformary x = bodies();
        x.certify(0, 0, 1000);
        return x;
    }

    /**
     * On day 3: product 0 without demands and with the batches 0 (1000 units) and 2 (20 units),
     * product 1 with a demand that is not kept and batch 1 (7 units).
     */
    static Conformary market() {
        Conformary x = new Conformary();
        x.act(2, 0, 1, 0);
        x.product(1);
        x.product(2);
        x.risk(1, 0, 3, 3);
        x.pass(3);
        x.post(0, 1000);
        x.post(1, 7);
        x.post(0, 20);
        return x;
    }

    /** The same with as many batches as there may be. */
    static Conformary fullMarket() {
        Conformary x = market();
        for (int batch = 3; batch < 40; batch++) {
            x.post(0, 1);
        }
        return x;
    }

    /** Lets the days pass up to that one. */
    static Conformary atDay(Conformary x, int day) {
        for (int steps = 0; steps < 11 && x.day() < day; steps++) {
            x.pass(Math.min(500, day - x.day()));
        }
        return x;
    }
}
