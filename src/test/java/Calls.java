import java.util.Arrays;

/** A call as a name and numbers, so that runs of calls can be made, told and made again. */
final class Calls {
    /** Each call with the highest value that each argument may have (a boolean's is 1). */
    static final String[] ALL = {
        "act 255 255 255 5000", "special 5 5", "standard 255 5000", "withdraw 11 5000", "restrict 11 255",
        "product 255", "change 9 255", "risk 9 7 9 9", "follow 9 11 255", "prove 9 255", "declare 9",
        "body 63", "suspend 4 1", "certify 4 9 1000", "transfer 9 4", "visit 9 1",
        "place 9 10000", "post 9 10000", "sample 39 100000 100000 10000", "event 39 3 1000",
        "recall 9 39 39", "ban 4 9 1", "pass 500",
        "day", "applies 5 9", "demands 9 1", "way 9", "wanting 9", "productOf 9 6", "riskOf 9 7 1",
        "batchOf 39 8", "wantingAnew 39"};

    final String name;
    final int[] with;

    Calls(String name, int... with) {
        this.name = name;
        this.with = with;
    }

    @Override
    public String toString() {
        return name + Arrays.toString(with);
    }

    Object on(Conformary x) {
        return Check.answer(x, this::made);
    }

    private Object made(Conformary x) {
        int[] a = Arrays.copyOf(with, 4);
        switch (name) {
            case "act": return x.act(a[0], a[1], a[2], a[3]);
            case "special": return x.special(a[0], a[1]) ? 1 : 0;
            case "standard": return x.standard(a[0], a[1]);
            case "withdraw": return x.withdraw(a[0], a[1]);
            case "restrict": return x.restrict(a[0], a[1]);
            case "product": return x.product(a[0]);
            case "change": return x.change(a[0], a[1]);
            case "risk": return x.risk(a[0], a[1], a[2], a[3]);
            case "follow": return x.follow(a[0], a[1], a[2]);
            case "prove": return x.prove(a[0], a[1]);
            case "declare": return x.declare(a[0]);
            case "body": return x.body(a[0]);
            case "suspend": return x.suspend(a[0], a[1] == 1) ? 1 : 0;
            case "certify": return x.certify(a[0], a[1], a[2]);
            case "transfer": return x.transfer(a[0], a[1]);
            case "visit": return x.visit(a[0], a[1] == 1) ? 1 : 0;
            case "place": return x.place(a[0], a[1]);
            case "post": return x.post(a[0], a[1]);
            case "sample": return x.sample(a[0], a[1], a[2], a[3]);
            case "event": return x.event(a[0], a[1], a[2]);
            case "recall": return x.recall(a[0], a[1], a[2]);
            case "ban": return x.ban(a[0], a[1], a[2] == 1);
            case "pass": return x.pass(a[0]);
            case "day": return x.day();
            case "applies": return x.applies(a[0], a[1]) ? 1 : 0;
            case "demands": return x.demands(a[0], a[1] == 1);
            case "way": return x.way(a[0]);
            case "wanting": return x.wanting(a[0]);
            case "productOf": return x.productOf(a[0], a[1]);
            case "riskOf": return x.riskOf(a[0], a[1], a[2] == 1);
            case "batchOf": return x.batchOf(a[0], a[1]);
            case "wantingAnew": return x.wantingAnew(a[0]);
            default: throw new AssertionError(name);
        }
    }
}
