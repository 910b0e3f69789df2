import java.util.function.Supplier;

/**
 * All that an object shows of its state, as a text: what it answers, and what further calls find
 * that no question shows. Three objects are asked, so that each stays within its 512 calls.
 */
final class Probe {
    private static final int ACTS = 6;
    private static final int STANDARDS = 12;
    private static final int PRODUCTS = 10;
    private static final int BODIES = 5;
    private static final int BATCHES = 40;

    private Probe() {
    }

    static String of(Supplier<Conformary> made) {
        StringBuilder seen = new StringBuilder();
        products(seen, made.get());
        batches(seen, made.get());
        hidden(seen, made.get());
        return seen.toString();
    }

    private static void products(StringBuilder seen, Conformary x) {
        note(seen, x, c -> c.day());
        for (int p = 0; p < PRODUCTS; p++) {
            int product = p;
            note(seen, x, c -> c.demands(product, false));
            note(seen, x, c -> c.demands(product, true));
            note(seen, x, c -> c.way(product));
            note(seen, x, c -> c.wanting(product));
            for (int what = 0; what <= 6; what++) {
                int asked = what;
                note(seen, x, c -> c.productOf(product, asked));
            }
            for (int h = 0; h < 8; h++) {
                int hazard = h;
                note(seen, x, c -> c.riskOf(product, hazard, false));
                note(seen, x, c -> c.riskOf(product, hazard, true));
            }
            for (int a = 0; a < ACTS; a++) {
                int act = a;
                note(seen, x, c -> c.applies(act, product));
            }
        }
    }

    private static void batches(StringBuilder seen, Conformary x) {
        for (int b = 0; b < BATCHES; b++) {
            int batch = b;
            for (int what = 0; what <= 8; what++) {
                int asked = what;
                note(seen, x, c -> c.batchOf(batch, asked));
            }
            note(seen, x, c -> c.wantingAnew(batch));
        }
    }

    private static void hidden(StringBuilder seen, Conformary x) {
        hiddenInActs(seen, x);
        for (int b = 0; b < BODIES; b++) {
            int body = b;
            note(seen, x, c -> c.suspend(body, true));
        }
        for (int s = 0; s < STANDARDS; s++) {
            int standard = s;
            note(seen, x, c -> c.follow(0, standard, 255));
            note(seen, x, c -> c.follow(1, standard, 255));
        }
        for (int p = 0; p < PRODUCTS; p++) {
            hiddenInProduct(seen, x, p);
        }
        note(seen, x, c -> c.event(0, 0, 1));
        wantingLater(seen, x, 1);
        wantingLater(seen, x, 100);
        wantingLater(seen, x, 265);
        hiddenInScopes(seen, x);
        hiddenInStandards(seen, x);
        numbersOfTheNext(seen, x);
    }

    private static void hiddenInActs(StringBuilder seen, Conformary x) {
        for (int a = 0; a < ACTS; a++) {
            for (int b = 0; b < ACTS; b++) {
                int act = a;
                int other = b;
                note(seen, x, c -> c.special(act, other));
            }
        }
    }

    private static void hiddenInProduct(StringBuilder seen, Conformary x, int product) {
        for (int s = 0; s < 5; s++) {
            int state = s;
            note(seen, x, c -> c.ban(state, product, true));
            note(seen, x, c -> c.ban(state, product, false));
        }
        note(seen, x, c -> c.prove(product, 1));
    }

    private static void hiddenInScopes(StringBuilder seen, Conformary x) {
        for (int b = 0; b < BODIES; b++) {
            int body = b;
            note(seen, x, c -> c.suspend(body, false));
            note(seen, x, c -> c.certify(body, PRODUCTS - 1, 1));
        }
    }

    private static void hiddenInStandards(StringBuilder seen, Conformary x) {
        for (int s = 0; s < STANDARDS; s++) {
            int standard = s;
            note(seen, x, c -> c.withdraw(standard, 5000));
            note(seen, x, c -> c.restrict(standard, 128));
        }
    }

    private static void numbersOfTheNext(StringBuilder seen, Conformary x) {
        note(seen, x, c -> c.act(1, 0, 1, 0));
        note(seen, x, c -> c.standard(1, 0));
        note(seen, x, c -> c.product(1));
        note(seen, x, c -> c.body(1));
        note(seen, x, c -> c.post(0, 1));
    }

    private static void wantingLater(StringBuilder seen, Conformary x, int days) {
        note(seen, x, c -> c.pass(days));
        note(seen, x, c -> c.wanting(0));
        note(seen, x, c -> c.wanting(1));
    }

    private static void note(StringBuilder seen, Conformary x, Check.Call call) {
        seen.append(Check.answer(x, call)).append(' ');
    }
}
