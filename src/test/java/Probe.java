/**
 * All that an object shows of its state, as a text: first what it answers, then what further calls
 * find that no question shows. The object is spent by that.
 */
final class Probe {
    private static final int PRODUCTS = 3;
    private static final int BATCHES = 3;

    private Probe() {
    }

    static String of(Conformary x) {
        StringBuilder seen = new StringBuilder();
        note(seen, x, c -> c.day());
        for (int p = 0; p < PRODUCTS; p++) {
            product(seen, x, p);
        }
        for (int b = 0; b < BATCHES; b++) {
            batch(seen, x, b);
        }
        hidden(seen, x);
        return seen.toString();
    }

    private static void product(StringBuilder seen, Conformary x, int p) {
        note(seen, x, c -> c.demands(p, false));
        note(seen, x, c -> c.demands(p, true));
        note(seen, x, c -> c.way(p));
        note(seen, x, c -> c.wanting(p));
        for (int what = 0; what <= 6; what++) {
            int asked = what;
            note(seen, x, c -> c.productOf(p, asked));
        }
        for (int h = 0; h < 8; h++) {
            int hazard = h;
            note(seen, x, c -> c.riskOf(p, hazard, false));
            note(seen, x, c -> c.riskOf(p, hazard, true));
        }
        for (int a = 0; a < 3; a++) {
            int act = a;
            note(seen, x, c -> c.applies(act, p));
        }
    }

    private static void batch(StringBuilder seen, Conformary x, int b) {
        for (int what = 0; what <= 8; what++) {
            int asked = what;
            note(seen, x, c -> c.batchOf(b, asked));
        }
        note(seen, x, c -> c.wantingAnew(b));
    }

    private static void hidden(StringBuilder seen, Conformary x) {
        for (int n = 0; n < 3; n++) {
            int number = n;
            note(seen, x, c -> c.suspend(number, true));
            note(seen, x, c -> c.withdraw(number, 5000));
            note(seen, x, c -> c.restrict(number, 128));
            note(seen, x, c -> c.follow(0, number, 255));
            note(seen, x, c -> c.ban(0, number, true));
            note(seen, x, c -> c.special(number, 0));
            note(seen, x, c -> c.special(0, number));
        }
        note(seen, x, c -> c.prove(0, 1));
        note(seen, x, c -> c.event(0, 0, 1));
        note(seen, x, c -> c.act(1, 0, 1, 0));
        note(seen, x, c -> c.standard(1, 0));
        note(seen, x, c -> c.product(1));
        note(seen, x, c -> c.body(1));
        note(seen, x, c -> c.post(0, 1));
        note(seen, x, c -> c.pass(101));
        note(seen, x, c -> c.wanting(0));
        note(seen, x, c -> c.wanting(1));
    }

    private static void note(StringBuilder seen, Conformary x, Check.Call call) {
        seen.append(Check.answer(x, call)).append(' ');
    }
}
