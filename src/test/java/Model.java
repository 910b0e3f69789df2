import java.util.ArrayList;
import java.util.HashMap;
import java.util.List;
import java.util.Map;
import java.util.Set;
import java.util.TreeMap;
import java.util.TreeSet;

/**
 * The document once more, for comparison: by sets and lists instead of bits and rows, and with
 * wantingAnew by telling a new model all that was told up to the batch.
 */
final class Model {
    private static final String I = "IndexOutOfBoundsException", A = "IllegalArgumentException", S = "IllegalStateException";

    private static final class Act {
        Set<Integer> scope, without, demands;
        int from;
        final Set<Integer> moreGeneral = new TreeSet<>();
    }

    private static final class Standard {
        Set<Integer> hazards;
        int from;
        int until = -1;
    }

    private static final class Product {
        int version;
        Set<Integer> functions;
        final Map<Integer, int[]> risks = new TreeMap<>();
        final Set<Integer> states = new TreeSet<>();
        Paper paper = new Paper();
    }

    /** What a version has. */
    private static final class Paper {
        final Map<Integer, Set<Integer>> follows = new HashMap<>();
        final Set<Integer> proofs = new TreeSet<>();
        int body = -1, until = -1, visit = -1, declared = -1;
    }

    private static final class Body {
        Set<Integer> acts;
        int suspended = -1;
    }

    private static final class Batch {
        int product, units, day, version, wanting;
        boolean isRecalled;
        int sample = -1;
        final List<int[]> events = new ArrayList<>();
    }

    private final List<Calls> told = new ArrayList<>();
    private final List<Act> acts = new ArrayList<>();
    private final List<Standard> standards = new ArrayList<>();
    private final List<Product> products = new ArrayList<>();
    private final List<Body> bodies = new ArrayList<>();
    private final List<Batch> batches = new ArrayList<>();
    private int day;

    /** The answer that is due, an Integer, or the name of the exception. */
    Object due(Calls call) {
        int[] a = call.with;
        Object due = refusal(call.name, a);
        if (due == null) {
            due = asked(call.name, a);
        }
        if (due == null) {
            due = toldOfRules(call.name, a);
            due = due != null ? due : toldOfProducts(call.name, a);
            due = due != null ? due : toldOfTheMarket(call.name, a);
            told.add(call);
        }
        return due;
    }

    private static Set<Integer> set(int bits) {
        Set<Integer> numbers = new TreeSet<>();
        for (int n = 0; n < 8; n++) {
            if ((bits / (1 << n)) % 2 == 1) {
                numbers.add(n);
            }
        }
        return numbers;
    }

    private static int bits(Set<Integer> numbers) {
        int sum = 0;
        for (int n : numbers) {
            sum += 1 << n;
        }
        return sum;
    }

    private static boolean in(int value, int low, int high) {
        return low <= value && value <= high;
    }

    private static boolean in(int value, List<?> rows) {
        return in(value, 0, rows.size() - 1);
    }

    private static String first(boolean isIndex, boolean isArgument, boolean isState) {
        return !isIndex ? I : !isArgument ? A : !isState ? S : null;
    }

    private String refusal(String name, int[] a) {
        switch (name) {
            case "act":
                return first(true, in(a[0], 1, 255) && in(a[1], 0, 255) && in(a[2], 1, 255) && in(a[3], 0, 5000), acts.size() < 6);
            case "special":
                return first(in(a[0], acts) && in(a[1], acts), a[0] != a[1], !isRing(a));
            case "standard":
                return first(true, in(a[0], 1, 255) && in(a[1], 0, 5000), standards.size() < 12);
            case "withdraw":
                return first(in(a[0], standards), in(a[1], day, 5000), true);
            case "restrict":
                return first(in(a[0], standards), in(a[1], 1, 255), true);
            case "product":
                return first(true, in(a[0], 1, 255), products.size() < 10);
            case "change": case "prove":
                return first(in(a[0], products), in(a[1], 1, 255), true);
            case "risk":
                return first(in(a[0], products) && in(a[1], 0, 7), in(a[2], 0, 9) && in(a[3], 0, a[2]), true);
            case "follow":
                return first(in(a[0], products) && in(a[1], standards), in(a[2], 0, 255), true);
            case "declare":
                return !in(a[0], products) ? I : first(true, true, wanting(a[0]) == 0 || wanting(a[0]) == 6);
            case "body":
                return first(true, in(a[0], 1, 63), bodies.size() < 5);
            case "suspend":
                return first(in(a[0], bodies), true, true);
            case "certify":
                return !in(a[0], bodies) || !in(a[1], products) ? I
                        : first(true, in(a[2], 1, 1000), takes(a[0], a[1]) && !in(wanting(a[1]), 1, 3));
            case "transfer":
                return !in(a[0], products) || !in(a[1], bodies) ? I
                        : first(true, true, products.get(a[0]).paper.body != -1
                                && products.get(a[0]).paper.body != a[1] && takes(a[1], a[0]));
            default:
                return refusalOnTheMarket(name, a);
        }
    }

    private String refusalOnTheMarket(String name, int[] a) {
        switch (name) {
            case "place":
                return !in(a[0], products) ? I : first(true, in(a[1], 1, 10000), wanting(a[0]) == 0 && batches.size() < 40);
            case "post":
                return first(in(a[0], products), in(a[1], 1, 10000), batches.size() < 40);
            case "sample":
                return first(in(a[0], batches), in(a[1], 0, 100000) && in(a[2], 0, 100000) && in(a[3], 0, 10000), true);
            case "event":
                return first(in(a[0], batches), in(a[1], 0, 3) && in(a[2], 1, 1000), true);
            case "recall":
                return first(in(a[0], products) && in(a[1], batches) && in(a[2], batches), a[1] <= a[2], true);
            case "ban":
                return first(in(a[0], 0, 4) && in(a[1], products), true, true);
            case "pass":
                return first(true, in(a[0], 1, 500), (long) day + a[0] <= 5000);
            case "day":
                return null;
            case "applies":
                return first(in(a[0], acts) && in(a[1], products), true, true);
            case "riskOf":
                return first(in(a[0], products) && in(a[1], 0, 7), true, true);
            case "productOf":
                return first(in(a[0], products), in(a[1], 0, 6), true);
            case "batchOf":
                return first(in(a[0], batches), in(a[1], 0, 8), true);
            case "wantingAnew":
                return first(in(a[0], batches), true, true);
            default:
                return first(in(a[0], products), true, true);
        }
    }

    /** Whether, from the other act on, more general ones lead to this one. */
    private boolean isRing(int[] a) {
        return in(a[0], acts) && in(a[1], acts) && leads(a[1], a[0]);
    }

    private boolean leads(int special, int general) {
        for (int next : acts.get(special).moreGeneral) {
            if (next == general || leads(next, general)) {
                return true;
            }
        }
        return false;
    }

    private boolean takes(int body, int product) {
        return bodies.get(body).suspended == -1 && bodies.get(body).acts.containsAll(applying(product));
    }

    private Integer toldOfRules(String name, int[] a) {
        switch (name) {
            case "act":
                Act act = new Act();
                act.scope = set(a[0]);
                act.without = set(a[1]);
                act.demands = set(a[2]);
                act.from = a[3];
                acts.add(act);
                return acts.size() - 1;
            case "special":
                return acts.get(a[0]).moreGeneral.add(a[1]) ? 1 : 0;
            case "standard":
                Standard standard = new Standard();
                standard.hazards = set(a[0]);
                standard.from = a[1];
                standards.add(standard);
                return standards.size() - 1;
            case "withdraw":
                int until = standards.get(a[0]).until;
                standards.get(a[0]).until = a[1];
                return until;
            case "restrict":
                standards.get(a[0]).hazards.removeAll(set(a[1]));
                return bits(standards.get(a[0]).hazards);
            case "body":
                Body body = new Body();
                body.acts = set(a[0]);
                bodies.add(body);
                return bodies.size() - 1;
            case "suspend":
                int suspended = bodies.get(a[0]).suspended;
                bodies.get(a[0]).suspended = a[1] == 0 ? -1 : suspended == -1 ? day : suspended;
                return suspended == -1 ? 0 : 1;
            case "pass":
                day += a[0];
                return day;
            default:
                return null;
        }
    }

    private Integer toldOfProducts(String name, int[] a) {
        Product product = name.equals("product") ? new Product() : in(a[0], products) ? products.get(a[0]) : null;
        switch (name) {
            case "product":
                product.functions = set(a[0]);
                for (int hazard = 0; hazard < 8; hazard++) {
                    product.risks.put(hazard, new int[] {0, 0});
                }
                products.add(product);
                return products.size() - 1;
            case "change":
                return next(product, !product.functions.equals(product.functions = set(a[1])));
            case "risk":
                int[] was = product.risks.put(a[1], new int[] {a[2], a[3]});
                return next(product, a[2] > was[0] || a[3] > was[1]);
            case "follow":
                Set<Integer> followed = product.paper.follows.put(a[1], set(a[2]));
                return followed == null ? 0 : bits(followed);
            case "prove":
                product.paper.proofs.addAll(set(a[1]));
                return bits(product.paper.proofs);
            case "declare":
                return product.paper.declared = day;
            case "certify":
                products.get(a[1]).paper.body = a[0];
                return products.get(a[1]).paper.until = day + a[2];
            case "transfer":
                int from = product.paper.body;
                product.paper.body = a[1];
                return from;
            case "visit":
                return visited(product.paper, a[1] == 1);
            default:
                return null;
        }
    }

    private int next(Product product, boolean isNext) {
        if (isNext) {
            product.version++;
            product.paper = new Paper();
        }
        return product.version;
    }

    private int visited(Paper paper, boolean isGood) {
        if (isGood) {
            paper.visit = day;
            return 0;
        }
        int ended = paper.body == -1 ? 0 : 1;
        paper.body = -1;
        paper.until = -1;
        return ended;
    }

    private Integer toldOfTheMarket(String name, int[] a) {
        switch (name) {
            case "place": case "post":
                Batch batch = new Batch();
                batch.product = a[0];
                batch.units = a[1];
                batch.day = day;
                batch.version = products.get(a[0]).version;
                batch.wanting = wanting(a[0]);
                batches.add(batch);
                return batches.size() - 1;
            case "sample":
                return batches.get(a[0]).sample = a[1] > a[2] + a[3] ? 2 : a[1] > a[2] - a[3] ? 1 : 0;
            case "event":
                batches.get(a[0]).events.add(new int[] {a[1], a[2]});
                return level(batches.get(a[0]));
            case "recall":
                int units = 0;
                for (Batch each : batches.subList(a[1], a[2] + 1)) {
                    units += each.product == a[0] && !each.isRecalled ? each.units : 0;
                    each.isRecalled |= each.product == a[0];
                }
                return units;
            case "ban":
                Set<Integer> states = products.get(a[1]).states;
                if (a[2] == 1) {
                    states.add(a[0]);
                } else {
                    states.remove(a[0]);
                }
                return states.size();
            default:
                throw new AssertionError(name);
        }
    }

    private static int harmed(Batch batch) {
        int sum = 0;
        for (int[] event : batch.events) {
            sum += event[1];
        }
        return sum;
    }

    private static int level(Batch batch) {
        int level = 0;
        for (int[] event : batch.events) {
            level = Math.max(level, event[0]);
        }
        long ofThousand = 1000L * harmed(batch) / batch.units;
        return level + (ofThousand >= 50 ? 2 : ofThousand >= 10 ? 1 : 0) + (batch.sample == 2 ? 1 : 0);
    }

    private Integer asked(String name, int[] a) {
        switch (name) {
            case "day": return day;
            case "applies": return applying(a[1]).contains(a[0]) ? 1 : 0;
            case "demands": return bits(a[1] == 1 ? kept(a[0]) : demanded(a[0]));
            case "way": return way(a[0]);
            case "wanting": return wanting(a[0]);
            case "productOf": return ofProduct(a[0], a[1]);
            case "riskOf": return products.get(a[0]).risks.get(a[1])[a[2]];
            case "batchOf": return ofBatch(batches.get(a[0]), a[1]);
            case "wantingAnew": return toldOnceMore(a[0]);
            default: return null;
        }
    }

    private int ofProduct(int number, int what) {
        Product product = products.get(number);
        int units = 0;
        for (Batch batch : batches) {
            units += batch.product == number && !batch.isRecalled ? batch.units : 0;
        }
        Paper paper = product.paper;
        return new int[] {bits(product.functions), product.version, paper.body, paper.until, paper.visit, paper.declared, units}[what];
    }

    private static int ofBatch(Batch b, int what) {
        return new int[] {b.product, b.units, b.day, b.version, b.wanting, b.isRecalled ? 1 : 0, b.sample, level(b), harmed(b)}[what];
    }

    private int toldOnceMore(int batch) {
        Model anew = new Model();
        for (Calls call : told) {
            boolean isBatch = call.name.equals("place") || call.name.equals("post");
            if (isBatch && anew.batches.size() == batch) {
                return anew.wanting(call.with[0]);
            }
            anew.due(call);
        }
        throw new AssertionError("batch " + batch + " never came");
    }

    private boolean isForByItself(Act act, Product product) {
        Set<Integer> common = new TreeSet<>(act.scope);
        common.retainAll(product.functions);
        Set<Integer> barred = new TreeSet<>(act.without);
        barred.retainAll(product.functions);
        return act.from <= day && !common.isEmpty() && barred.isEmpty();
    }

    private Set<Integer> applying(int product) {
        Set<Integer> applying = new TreeSet<>();
        for (int act = 0; act < acts.size(); act++) {
            if (isForByItself(acts.get(act), products.get(product))) {
                applying.add(act);
            }
        }
        Set<Integer> behind = new TreeSet<>();
        for (int act : applying) {
            behind.addAll(acts.get(act).moreGeneral);
        }
        applying.removeAll(behind);
        return applying;
    }

    private Set<Integer> demanded(int product) {
        Set<Integer> hazards = new TreeSet<>();
        for (int act : applying(product)) {
            hazards.addAll(acts.get(act).demands);
        }
        hazards.removeIf(hazard -> products.get(product).risks.get(hazard)[0] == 0);
        return hazards;
    }

    private Set<Integer> kept(int product) {
        Set<Integer> kept = demanded(product);
        kept.removeIf(hazard -> products.get(product).risks.get(hazard)[1] > 4 || !isShown(products.get(product).paper, hazard));
        return kept;
    }

    private boolean isShown(Paper paper, int hazard) {
        for (int number : paper.follows.keySet()) {
            Standard standard = standards.get(number);
            boolean isListed = standard.from <= day && (standard.until == -1 || day <= standard.until);
            if (isListed && paper.follows.get(number).contains(hazard) && standard.hazards.contains(hazard)) {
                return true;
            }
        }
        return paper.proofs.contains(hazard);
    }

    private int way(int product) {
        int highest = 0;
        for (int hazard : demanded(product)) {
            highest = Math.max(highest, products.get(product).risks.get(hazard)[0]);
        }
        return highest > 6 ? 2 : highest > 3 ? 1 : 0;
    }

    private int wanting(int number) {
        Product product = products.get(number);
        Set<Integer> demanded = demanded(number);
        boolean isTooRisky = false;
        for (int hazard : demanded) {
            isTooRisky |= product.risks.get(hazard)[1] > 4;
        }
        boolean isVisited = product.paper.visit != -1 && day - product.paper.visit <= 365;
        boolean[] lacks = {
            product.states.size() >= 3,
            isTooRisky,
            !kept(number).equals(demanded),
            way(number) != 0 && !isCertified(number),
            way(number) == 2 && !isVisited,
            !demanded.isEmpty() && product.paper.declared == -1};
        for (int lack = 0; lack < lacks.length; lack++) {
            if (lacks[lack]) {
                return lack + 1;
            }
        }
        return 0;
    }

    private boolean isCertified(int number) {
        Paper paper = products.get(number).paper;
        if (paper.body == -1 || day > paper.until) {
            return false;
        }
        Body body = bodies.get(paper.body);
        return body.acts.containsAll(applying(number)) && (body.suspended == -1 || day - body.suspended <= 100);
    }
}
