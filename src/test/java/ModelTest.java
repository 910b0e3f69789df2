import java.util.Map;
import java.util.TreeMap;

/** Promises 1 to 33 together: long runs of calls, each answer compared with the model's. */
public final class ModelTest {
    private static final int RUNS = 2000;
    /** The document promises nothing behind these. */
    private static final int CALLS = 512;
    private static final int SETTLING = 60;
    private static final int[] STRANGE = {-1, -2, Integer.MIN_VALUE, Integer.MAX_VALUE, 32, 64, 256, 5001};

    private static final Map<String, Integer> SEEN = new TreeMap<>();
    private long seed;
    /** Whether the days pass faster, up to the last of all. */
    private final boolean isHasty;
    /** Whether states are for bans more often. */
    private final boolean isStrict;

    private ModelTest(int run) {
        seed = run;
        isHasty = run % 4 == 0;
        isStrict = run % 4 == 1;
    }

    public static void main(String[] args) {
        for (int run = 0; run < RUNS; run++) {
            if (!new ModelTest(run).isAsDue(run)) {
                break;
            }
        }
        for (String call : Calls.ALL) {
            seenOften(name(call) + " answers", 500);
        }
        for (int lack = 0; lack <= 6; lack++) {
            seenOften("wanting is " + lack, 100);
            seenOften("wantingAnew is " + lack, 20);
        }
        for (int level = 0; level <= 6; level++) {
            seenOften("level is " + level, 20);
        }
        for (int way = 0; way <= 2; way++) {
            seenOften("way is " + way, 50);
        }
        refusalsAreSeen();
        Check.end("ModelTest");
    }

    private static void refusalsAreSeen() {
        String throwsState = "act special standard product declare body certify transfer place post pass";
        for (String name : throwsState.split(" ")) {
            seenOften(name + " throws IllegalStateException", 20);
        }
        String throwsArgument = "act special standard withdraw restrict product change risk follow prove body certify"
                + " place post sample event recall pass productOf batchOf";
        for (String name : throwsArgument.split(" ")) {
            seenOften(name + " throws IllegalArgumentException", 20);
        }
        for (String call : Calls.ALL) {
            if (!"act standard product body pass day".contains(name(call))) {
                seenOften(name(call) + " throws IndexOutOfBoundsException", 20);
            }
        }
    }

    private static String name(String call) {
        return call.split(" ")[0];
    }

    private static void seenOften(String what, int least) {
        Check.is(what + " often enough to tell", SEEN.getOrDefault(what, 0) >= least, true);
    }

    private boolean isAsDue(int run) {
        Conformary x = new Conformary();
        Model model = new Model();
        for (int call = 0; call < CALLS; call++) {
            Calls next = call < SETTLING ? settling(call) : any();
            Object due = model.due(next);
            Object got = next.on(x);
            Check.is("run " + run + ", call " + call + ", " + next, got, due);
            if (!due.equals(got)) {
                return false;
            }
            count(next, due);
        }
        return true;
    }

    private static void count(Calls call, Object due) {
        SEEN.merge(call.name + (due instanceof String ? " throws " + due : " answers"), 1, Integer::sum);
        if (call.name.equals("batchOf") && call.with[1] == 7) {
            SEEN.merge("level is " + due, 1, Integer::sum);
        } else {
            SEEN.merge(call.name + " is " + due, 1, Integer::sum);
        }
    }

    /** A number from 0 on, below the bound; the same for the same seed. */
    private int below(int bound) {
        seed = seed * 6364136223846793005L + 1442695040888963407L;
        return (int) Long.remainderUnsigned(seed >>> 33, bound);
    }

    /** First calls that leave something to ask of: few products and much that fits together. */
    private Calls settling(int call) {
        switch (call % 15) {
            case 0: return new Calls("act", 1 + below(255), below(4) == 0 ? 1 << below(8) : 0, 1 + below(255), below(2) * below(900));
            case 1: return new Calls("product", 1 + below(255));
            case 2: return new Calls("body", below(3) == 0 ? 1 + below(63) : 63);
            case 3: return new Calls("standard", 1 + below(255), below(2) * below(900));
            case 4: case 5: return new Calls("risk", below(3), below(8), 1 + below(9), below(2));
            case 6: return new Calls("special", below(4), below(4));
            default: return kept();
        }
    }

    private Calls kept() {
        int product = below(3);
        switch (below(12)) {
            case 0: case 1: return new Calls("prove", product, 255);
            case 2: return new Calls("follow", product, below(3), 255);
            case 3: case 4: case 5: return new Calls("certify", below(2), product, 300 + below(700));
            case 6: case 7: return new Calls("visit", product, 1);
            case 8: case 9: return new Calls("declare", product);
            case 10: return new Calls("place", product, 1 + below(60));
            default: return new Calls("post", product, 1 + below(200));
        }
    }

    private Calls any() {
        if (isHasty && below(15) == 0) {
            return new Calls("pass", 1 + below(500));
        }
        if (isStrict && below(15) == 0) {
            return new Calls("ban", below(5), below(3), 1);
        }
        if (below(3) == 0) {
            return kept();
        }
        String[] call = Calls.ALL[below(Calls.ALL.length)].split(" ");
        if (call[0].equals("pass") && below(3) != 0) {
            return new Calls("pass", 1 + below(40));
        }
        if (call[0].equals("risk") && below(4) != 0) {
            int before = below(10);
            return new Calls("risk", below(3), below(8), before, below(Math.min(before, 5) + 1));
        }
        if (call[0].equals("event") && below(2) == 0) {
            return new Calls("event", below(4), below(4), 1 + below(3) * below(30));
        }
        if (call[0].equals("sample") && below(2) == 0) {
            return new Calls("sample", below(4), below(30), below(20), below(10));
        }
        if (call[0].equals("ban")) {
            return new Calls("ban", below(6), below(4), below(3) == 0 ? 1 : 0);
        }
        int[] with = new int[call.length - 1];
        for (int i = 0; i < with.length; i++) {
            with[i] = argument(Integer.parseInt(call[i + 1]), call[0]);
        }
        return new Calls(call[0], with);
    }

    private int argument(int highest, String name) {
        if (highest == 1) {
            return below(2);
        }
        switch (below(30)) {
            case 0: return STRANGE[below(STRANGE.length)];
            case 1: return highest + 1;
            case 2: case 3: return highest;
            case 4: return 0;
            case 5: case 6: case 7: case 8: return below(highest + 1);
            default: return below(smaller(highest, name));
        }
    }

    /** Numbers that more often name something that is there. */
    private int smaller(int highest, String name) {
        if (highest == 9 && !name.equals("risk")) {
            return 3;
        }
        return highest == 39 ? 6 : highest == 11 ? 4 : highest > 5000 ? 200 : highest + 1;
    }
}
