/**
 * Whether a thing may be sold as safe: acts and their demands, standards, products with their
 * files, bodies with their certificates, and batches on the market.
 *
 * Sets of acts, functions, hazards and states are held as bits.
 */
public final class Conformary {
    public static final int NONE = -1;
    public static final int DECLARED = 0, TYPE = 1, QUALITY = 2;
    public static final int ON = 0, RECALLED = 1;
    public static final int PASSED = 0, OPEN = 1, FAILED = 2;

    private static final int MOST_ACTS = 6;
    private static final int MOST_STANDARDS = 12;
    private static final int MOST_PRODUCTS = 10;
    private static final int MOST_BODIES = 5;
    private static final int MOST_BATCHES = 40;
    private static final int HAZARDS = 8;
    private static final int STATES = 5;

    private static final int ALL_BITS = 255;
    private static final int ALL_ACTS = 63;
    private static final int LAST_DAY = 5000;
    private static final int MOST_DAYS_PASSED = 500;
    private static final int MOST_DAYS_CERTIFIED = 1000;
    private static final int MOST_UNITS = 10000;
    private static final int MOST_MEASURED = 100000;
    private static final int MOST_DOUBT = 10000;
    private static final int MOST_SEVERITY = 3;
    private static final int MOST_HARMED = 1000;

    private static final int HIGHEST_RISK = 9;
    private static final int HIGHEST_RISK_KEPT = 4;
    private static final int HIGHEST_RISK_DECLARED = 3;
    private static final int HIGHEST_RISK_TYPE = 6;
    private static final int STATES_THAT_BAN = 3;
    private static final int DAYS_AFTER_SUSPENSION = 100;
    private static final int DAYS_AFTER_VISIT = 365;

    private static final int BANNED = 1;
    private static final int TOO_RISKY = 2;
    private static final int NOT_KEPT = 3;
    private static final int NOT_CERTIFIED = 4;
    private static final int NOT_VISITED = 5;
    private static final int NOT_DECLARED = 6;

    private final Act[] acts;
    private final Standard[] standards;
    private final Product[] products;
    private final Body[] bodies;
    private final Batch[] batches;
    private int actCount;
    private int standardCount;
    private int productCount;
    private int bodyCount;
    private int batchCount;
    private int today;

    public Conformary() {
        acts = new Act[MOST_ACTS];
        standards = new Standard[MOST_STANDARDS];
        products = new Product[MOST_PRODUCTS];
        bodies = new Body[MOST_BODIES];
        batches = new Batch[MOST_BATCHES];
    }

    // ---- acts, standards

    public int act(int scope, int without, int demands, int from) throws IllegalArgumentException, IllegalStateException {
        checkRange(scope, 1, ALL_BITS);
        checkRange(without, 0, ALL_BITS);
        checkRange(demands, 1, ALL_BITS);
        checkRange(from, 0, LAST_DAY);
        if (actCount < 0 || actCount >= acts.length) {
            throw new IllegalStateException("there are 6 acts");
        }
        acts[actCount] = new Act(scope, without, demands, from);
        return actCount++;
    }

    public boolean special(int act, int other) throws IndexOutOfBoundsException, IllegalArgumentException, IllegalStateException {
        Act special = actAt(act);
        Act general = actAt(other);
        if (act == other) {
            throw new IllegalArgumentException("an act is not more special than itself");
        }
        if (hasBit(actsMoreSpecialThan(special), other)) {
            throw new IllegalStateException("the other act is more special");
        }
        boolean isNew = !hasBit(general.moreSpecial, act);
        general.moreSpecial |= 1 << act;
        return isNew;
    }

    public int standard(int hazards, int from) throws IllegalArgumentException, IllegalStateException {
        checkRange(hazards, 1, ALL_BITS);
        checkRange(from, 0, LAST_DAY);
        if (standardCount < 0 || standardCount >= standards.length) {
            throw new IllegalStateException("there are 12 standards");
        }
        standards[standardCount] = new Standard(hazards, from);
        return standardCount++;
    }

    public int withdraw(int standard, int day) throws IndexOutOfBoundsException, IllegalArgumentException {
        Standard told = standardAt(standard);
        checkRange(day, today, LAST_DAY);
        int before = told.until;
        told.until = day;
        return before;
    }

    public int restrict(int standard, int hazards) throws IndexOutOfBoundsException, IllegalArgumentException {
        Standard told = standardAt(standard);
        checkRange(hazards, 1, ALL_BITS);
        told.hazards &= ~hazards;
        return told.hazards;
    }

    // ---- products

    public int product(int functions) throws IllegalArgumentException, IllegalStateException {
        checkRange(functions, 1, ALL_BITS);
        if (productCount < 0 || productCount >= products.length) {
            throw new IllegalStateException("there are 10 products");
        }
        products[productCount] = new Product(functions);
        return productCount++;
    }

    public int change(int product, int functions) throws IndexOutOfBoundsException, IllegalArgumentException {
        Product told = productAt(product);
        checkRange(functions, 1, ALL_BITS);
        if (told.functions != functions) {
            told.functions = functions;
            told.startNextVersion();
        }
        return told.version;
    }

    public int risk(int product, int hazard, int before, int after) throws IndexOutOfBoundsException, IllegalArgumentException {
        Product told = productAt(product);
        checkHazard(hazard);
        checkRange(before, 0, HIGHEST_RISK);
        checkRange(after, 0, before);
        boolean isHigher = before > told.riskBefore[hazard] || after > told.riskAfter[hazard];
        told.riskBefore[hazard] = before;
        told.riskAfter[hazard] = after;
        if (isHigher) {
            told.startNextVersion();
        }
        return told.version;
    }

    public int follow(int product, int standard, int hazards) throws IndexOutOfBoundsException, IllegalArgumentException {
        Product told = productAt(product);
        standardAt(standard);
        checkRange(hazards, 0, ALL_BITS);
        int before = told.followed[standard];
        told.followed[standard] = hazards;
        return before;
    }

    public int prove(int product, int hazards) throws IndexOutOfBoundsException, IllegalArgumentException {
        Product told = productAt(product);
        checkRange(hazards, 1, ALL_BITS);
        told.proved |= hazards;
        return told.proved;
    }

    public int declare(int product) throws IndexOutOfBoundsException, IllegalStateException {
        Product told = productAt(product);
        int lack = firstLack(told);
        if (lack != 0 && lack != NOT_DECLARED) {
            throw new IllegalStateException("more than the declaration is wanting");
        }
        told.declaredOn = today;
        return today;
    }

    // ---- bodies

    public int body(int acts) throws IllegalArgumentException, IllegalStateException {
        checkRange(acts, 1, ALL_ACTS);
        if (bodyCount < 0 || bodyCount >= bodies.length) {
            throw new IllegalStateException("there are 5 bodies");
        }
        bodies[bodyCount] = new Body(bodyCount, acts);
        return bodyCount++;
    }

    public boolean suspend(int body, boolean is) throws IndexOutOfBoundsException {
        Body told = bodyAt(body);
        boolean wasSuspended = told.isSuspended();
        if (!is) {
            told.suspendedOn = NONE;
        } else if (!wasSuspended) {
            told.suspendedOn = today;
        }
        return wasSuspended;
    }

    public int certify(int body, int product, int days) throws IndexOutOfBoundsException, IllegalArgumentException, IllegalStateException {
        Body giver = bodyAt(body);
        Product told = productAt(product);
        checkRange(days, 1, MOST_DAYS_CERTIFIED);
        checkMayCertify(giver, told);
        int lack = firstLack(told);
        if (lack == BANNED || lack == TOO_RISKY || lack == NOT_KEPT) {
            throw new IllegalStateException("more than the certificate is wanting");
        }
        told.certifier = giver;
        told.certifiedUntil = today + days;
        return told.certifiedUntil;
    }

    public int transfer(int product, int body) throws IndexOutOfBoundsException, IllegalStateException {
        Product told = productAt(product);
        Body taker = bodyAt(body);
        Body giver = told.certifier;
        if (giver == null || giver == taker) {
            throw new IllegalStateException("no certificate of another body");
        }
        checkMayCertify(taker, told);
        told.certifier = taker;
        return giver.number;
    }

    public boolean visit(int product, boolean isGood) throws IndexOutOfBoundsException {
        Product told = productAt(product);
        if (isGood) {
            told.visitedOn = today;
            return false;
        }
        boolean wasCertified = told.certifier != null;
        told.endCertificate();
        return wasCertified;
    }

    // ---- the market, days

    public int place(int product, int units) throws IndexOutOfBoundsException, IllegalArgumentException, IllegalStateException {
        Product told = productAt(product);
        checkRange(units, 1, MOST_UNITS);
        if (firstLack(told) != 0) {
            throw new IllegalStateException("something is wanting");
        }
        return addBatch(product, told, units);
    }

    public int post(int product, int units) throws IndexOutOfBoundsException, IllegalArgumentException, IllegalStateException {
        Product told = productAt(product);
        checkRange(units, 1, MOST_UNITS);
        return addBatch(product, told, units);
    }

    public int sample(int batch, int measured, int limit, int doubt) throws IndexOutOfBoundsException, IllegalArgumentException {
        Batch told = batchAt(batch);
        checkRange(measured, 0, MOST_MEASURED);
        checkRange(limit, 0, MOST_MEASURED);
        checkRange(doubt, 0, MOST_DOUBT);
        if (measured - doubt > limit) {
            told.latestSample = FAILED;
        } else if (measured + doubt <= limit) {
            told.latestSample = PASSED;
        } else {
            told.latestSample = OPEN;
        }
        return told.latestSample;
    }

    public int event(int batch, int severity, int harmed) throws IndexOutOfBoundsException, IllegalArgumentException {
        Batch told = batchAt(batch);
        checkRange(severity, 0, MOST_SEVERITY);
        checkRange(harmed, 1, MOST_HARMED);
        told.highestSeverity = Math.max(told.highestSeverity, severity);
        told.harmed += harmed;
        return told.alarmLevel();
    }

    public int recall(int product, int first, int last) throws IndexOutOfBoundsException, IllegalArgumentException {
        productAt(product);
        batchAt(first);
        batchAt(last);
        if (last < first) {
            throw new IllegalArgumentException("last is below first");
        }
        int units = 0;
        for (int number = first; number <= last; number++) {
            Batch each = batchAt(number);
            if (each.isOnMarketOf(product)) {
                each.standing = RECALLED;
                units += each.units;
            }
        }
        return units;
    }

    public int ban(int state, int product, boolean isFor) throws IndexOutOfBoundsException {
        if (state < 0 || state >= STATES) {
            throw new IndexOutOfBoundsException("no such state");
        }
        Product told = productAt(product);
        if (isFor) {
            told.statesForBan |= 1 << state;
        } else {
            told.statesForBan &= ~(1 << state);
        }
        return Integer.bitCount(told.statesForBan);
    }

    public int pass(int days) throws IllegalArgumentException, IllegalStateException {
        checkRange(days, 1, MOST_DAYS_PASSED);
        if (today + days > LAST_DAY) {
            throw new IllegalStateException("the days end at 5000");
        }
        today += days;
        return today;
    }

    // ---- what is asked

    public int day() {
        return today;
    }

    public boolean applies(int act, int product) throws IndexOutOfBoundsException {
        actAt(act);
        return hasBit(actsApplyingTo(productAt(product)), act);
    }

    public int demands(int product, boolean areKept) throws IndexOutOfBoundsException {
        Product asked = productAt(product);
        int demanded = hazardsDemanded(asked);
        return areKept ? hazardsKept(asked, demanded) : demanded;
    }

    public int way(int product) throws IndexOutOfBoundsException {
        Product asked = productAt(product);
        return wayOf(asked, hazardsDemanded(asked));
    }

    public int wanting(int product) throws IndexOutOfBoundsException {
        return firstLack(productAt(product));
    }

    public int productOf(int product, int what) throws IndexOutOfBoundsException, IllegalArgumentException {
        Product asked = productAt(product);
        switch (what) {
            case 0:
                return asked.functions;
            case 1:
                return asked.version;
            case 2:
                return asked.certifier == null ? NONE : asked.certifier.number;
            case 3:
                return asked.certifiedUntil;
            case 4:
                return asked.visitedOn;
            case 5:
                return asked.declaredOn;
            case 6:
                return unitsOnMarket(product);
            default:
                throw new IllegalArgumentException("what is out of range");
        }
    }

    public int riskOf(int product, int hazard, boolean isAfter) throws IndexOutOfBoundsException {
        Product asked = productAt(product);
        checkHazard(hazard);
        return isAfter ? asked.riskAfter[hazard] : asked.riskBefore[hazard];
    }

    public int batchOf(int batch, int what) throws IndexOutOfBoundsException, IllegalArgumentException {
        Batch asked = batchAt(batch);
        switch (what) {
            case 0:
                return asked.product;
            case 1:
                return asked.units;
            case 2:
                return asked.cameOn;
            case 3:
                return asked.version;
            case 4:
                return asked.lackThen;
            case 5:
                return asked.standing;
            case 6:
                return asked.latestSample;
            case 7:
                return asked.alarmLevel();
            case 8:
                return asked.harmed;
            default:
                throw new IllegalArgumentException("what is out of range");
        }
    }

    /**
     * The calls up to a batch, told once more, lead to the state in which it came, as no answer
     * hangs on anything but the calls; so what was kept then is what a retelling would find.
     */
    public int wantingAnew(int batch) throws IndexOutOfBoundsException {
        return batchAt(batch).lackThen;
    }

    // ---- what is looked up and checked

    private Act actAt(int number) {
        Act found = number < 0 || number >= acts.length ? null : acts[number];
        if (found == null) {
            throw new IndexOutOfBoundsException("no such act");
        }
        return found;
    }

    private Standard standardAt(int number) {
        Standard found = number < 0 || number >= standards.length ? null : standards[number];
        if (found == null) {
            throw new IndexOutOfBoundsException("no such standard");
        }
        return found;
    }

    private Product productAt(int number) {
        Product found = number < 0 || number >= products.length ? null : products[number];
        if (found == null) {
            throw new IndexOutOfBoundsException("no such product");
        }
        return found;
    }

    private Body bodyAt(int number) {
        Body found = number < 0 || number >= bodies.length ? null : bodies[number];
        if (found == null) {
            throw new IndexOutOfBoundsException("no such body");
        }
        return found;
    }

    private Batch batchAt(int number) {
        Batch found = number < 0 || number >= batches.length ? null : batches[number];
        if (found == null) {
            throw new IndexOutOfBoundsException("no such batch");
        }
        return found;
    }

    private static void checkHazard(int hazard) {
        if (hazard < 0 || hazard >= HAZARDS) {
            throw new IndexOutOfBoundsException("no such hazard");
        }
    }

    private static void checkRange(int value, int lowest, int highest) {
        if (value < lowest || value > highest) {
            throw new IllegalArgumentException("an argument is out of range");
        }
    }

    private void checkMayCertify(Body body, Product product) {
        if (body.isSuspended() || !body.hasInScope(actsApplyingTo(product))) {
            throw new IllegalStateException("the body is suspended or lacks an act");
        }
    }

    private static boolean hasBit(int set, int number) {
        return (set >> number & 1) != 0;
    }

    // ---- what follows from what was told

    private int actsMoreSpecialThan(Act act) {
        int found = act.moreSpecial;
        // A chain without a ring has fewer links than there are acts.
        for (int link = 1; link < acts.length; link++) {
            for (int number = 0; number < acts.length; number++) {
                Act each = acts[number];
                if (each != null && hasBit(found, number)) {
                    found |= each.moreSpecial;
                }
            }
        }
        return found;
    }

    private int actsForByThemselves(Product product) {
        int found = 0;
        for (int number = 0; number < acts.length; number++) {
            Act each = acts[number];
            if (each != null && each.isForByItself(product.functions, today)) {
                found |= 1 << number;
            }
        }
        return found;
    }

    private int actsApplyingTo(Product product) {
        int candidates = actsForByThemselves(product);
        int found = 0;
        for (int number = 0; number < acts.length; number++) {
            Act each = acts[number];
            if (each != null && hasBit(candidates, number) && (each.moreSpecial & candidates) == 0) {
                found |= 1 << number;
            }
        }
        return found;
    }

    private int hazardsDemanded(Product product) {
        int applying = actsApplyingTo(product);
        int demanded = 0;
        for (int number = 0; number < acts.length; number++) {
            Act each = acts[number];
            if (each != null && hasBit(applying, number)) {
                demanded |= each.demanded;
            }
        }
        return demanded & product.hazardsBeforeAbove(0);
    }

    private int hazardsKept(Product product, int demanded) {
        int shown = product.proved;
        for (int number = 0; number < standards.length && number < product.followed.length; number++) {
            Standard each = standards[number];
            if (each != null && each.isListedOn(today)) {
                shown |= product.followed[number] & each.hazards;
            }
        }
        return demanded & shown & ~product.hazardsAfterAbove(HIGHEST_RISK_KEPT);
    }

    private int wayOf(Product product, int demanded) {
        if ((demanded & product.hazardsBeforeAbove(HIGHEST_RISK_TYPE)) != 0) {
            return QUALITY;
        }
        return (demanded & product.hazardsBeforeAbove(HIGHEST_RISK_DECLARED)) != 0 ? TYPE : DECLARED;
    }

    private int firstLack(Product product) {
        int demanded = hazardsDemanded(product);
        int way = wayOf(product, demanded);
        if (Integer.bitCount(product.statesForBan) >= STATES_THAT_BAN) {
            return BANNED;
        }
        if ((demanded & product.hazardsAfterAbove(HIGHEST_RISK_KEPT)) != 0) {
            return TOO_RISKY;
        }
        if (hazardsKept(product, demanded) != demanded) {
            return NOT_KEPT;
        }
        if (way != DECLARED && !holdsCertificate(product)) {
            return NOT_CERTIFIED;
        }
        if (way == QUALITY && !product.isVisitCounted(today)) {
            return NOT_VISITED;
        }
        return demanded != 0 && product.declaredOn == NONE ? NOT_DECLARED : 0;
    }

    private boolean holdsCertificate(Product product) {
        Body giver = product.certifier;
        return giver != null
                && today <= product.certifiedUntil
                && giver.hasInScope(actsApplyingTo(product))
                && giver.isCertificateUpheld(today);
    }

    private int addBatch(int number, Product product, int units) {
        if (batchCount < 0 || batchCount >= batches.length) {
            throw new IllegalStateException("there are 40 batches");
        }
        batches[batchCount] = new Batch(number, units, today, product.version, firstLack(product));
        return batchCount++;
    }

    private int unitsOnMarket(int product) {
        int units = 0;
        for (Batch each : batches) {
            if (each != null && each.isOnMarketOf(product)) {
                units += each.units;
            }
        }
        return units;
    }

    private static final class Act {
        private final int scope;
        private final int without;
        private final int demanded;
        private final int from;
        /** The acts that are told, directly, to be more special than this one. */
        private int moreSpecial;

        Act(int scope, int without, int demanded, int from) {
            this.scope = scope;
            this.without = without;
            this.demanded = demanded;
            this.from = from;
        }

        boolean isForByItself(int functions, int today) {
            return today >= from && (scope & functions) != 0 && (without & functions) == 0;
        }
    }

    private static final class Standard {
        private final int from;
        private int hazards;
        private int until;

        Standard(int hazards, int from) {
            this.hazards = hazards;
            this.from = from;
            this.until = NONE;
        }

        boolean isListedOn(int today) {
            return today >= from && (until == NONE || today <= until);
        }
    }

    private static final class Product {
        private final int[] riskBefore;
        private final int[] riskAfter;
        /** For each standard, the hazards in which the file follows it. */
        private final int[] followed;
        private int functions;
        private int version;
        private int proved;
        private int declaredOn;
        /** The body of the certificate, or null if there is none. */
        private Body certifier;
        private int certifiedUntil;
        private int visitedOn;
        private int statesForBan;

        Product(int functions) {
            this.functions = functions;
            riskBefore = new int[HAZARDS];
            riskAfter = new int[HAZARDS];
            followed = new int[MOST_STANDARDS];
            declaredOn = NONE;
            certifiedUntil = NONE;
            visitedOn = NONE;
        }

        void startNextVersion() {
            version++;
            for (int standard = 0; standard < followed.length; standard++) {
                followed[standard] = 0;
            }
            proved = 0;
            declaredOn = NONE;
            visitedOn = NONE;
            endCertificate();
        }

        void endCertificate() {
            certifier = null;
            certifiedUntil = NONE;
        }

        boolean isVisitCounted(int today) {
            return visitedOn != NONE && today <= visitedOn + DAYS_AFTER_VISIT;
        }

        int hazardsBeforeAbove(int bound) {
            return hazardsAbove(bound, riskBefore);
        }

        int hazardsAfterAbove(int bound) {
            return hazardsAbove(bound, riskAfter);
        }

        private static int hazardsAbove(int bound, int[] risks) {
            int found = 0;
            for (int hazard = 0; hazard < risks.length; hazard++) {
                if (risks[hazard] > bound) {
                    found |= 1 << hazard;
                }
            }
            return found;
        }
    }

    private static final class Body {
        private final int number;
        private final int scope;
        private int suspendedOn;

        Body(int number, int scope) {
            this.number = number;
            this.scope = scope;
            this.suspendedOn = NONE;
        }

        boolean isSuspended() {
            return suspendedOn != NONE;
        }

        boolean hasInScope(int acts) {
            return (acts & ~scope) == 0;
        }

        boolean isCertificateUpheld(int today) {
            return !isSuspended() || today <= suspendedOn + DAYS_AFTER_SUSPENSION;
        }
    }

    private static final class Batch {
        private final int product;
        private final int units;
        private final int cameOn;
        private final int version;
        private final int lackThen;
        private int standing;
        private int latestSample;
        private int highestSeverity;
        private int harmed;

        Batch(int product, int units, int cameOn, int version, int lackThen) {
            this.product = product;
            this.units = units;
            this.cameOn = cameOn;
            this.version = version;
            this.lackThen = lackThen;
            this.standing = ON;
            this.latestSample = NONE;
        }

        boolean isOnMarketOf(int asked) {
            return product == asked && standing == ON;
        }

        int alarmLevel() {
            return highestSeverity + alarmByHarm() + (latestSample == FAILED ? 1 : 0);
        }

        private int alarmByHarm() {
            long ofThousand = harmed * 1000L;
            if (ofThousand >= 50L * units) {
                return 2;
            }
            return ofThousand >= 10L * units ? 1 : 0;
        }
    }
}
