/** Promises 7 to 12 and 27 to 31: products, their files and what is asked of them. */
public final class ProductsTest {
    private static final int LOW = Integer.MIN_VALUE, HIGH = Integer.MAX_VALUE;
    private static final int[] NO_PRODUCT = {1, -1, 10, LOW, HIGH};
    private static final int[] NO_SET = {256, -1, LOW, HIGH};

    public static void main(String[] args) {
        productAnswers();
        productRefuses();
        changeAnswers();
        changeRefuses();
        riskAnswers();
        riskRefuses();
        nextVersionEndsAll();
        followAnswers();
        followRefuses();
        proveAnswers();
        proveRefuses();
        declareAnswers();
        declareRefuses();
        demandsAnswers();
        wayAnswers();
        wantingAnswers();
        productOfAnswers();
        askedRefuse();
        Check.end("ProductsTest");
    }

    /** One act for all hazards, a standard, a body and a product without risks. */
    private static Conformary plain() {
        Conformary x = new Conformary();
        x.act(255, 0, 255, 0);
        x.standard(255, 0);
        x.body(63);
        x.product(5);
        return x;
    }

    /** A product to which nothing is wanting: QUALITY, certified, visited, declared. */
    private static Conformary fine() {
        Conformary x = plain();
        x.risk(0, 2, 7, 4);
        x.follow(0, 0, 4);
        x.prove(0, 4);
        x.certify(0, 0, 100);
        x.visit(0, true);
        x.declare(0);
        return x;
    }

    private static Conformary banned() {
        Conformary x = fine();
        x.ban(0, 0, true);
        x.ban(1, 0, true);
        x.ban(2, 0, true);
        return x;
    }

    private static Conformary tenProducts() {
        Conformary x = new Conformary();
        for (int product = 0; product < 10; product++) {
            x.product(1);
        }
        return x;
    }

    private static void productAnswers() {
        Conformary x = new Conformary();
        for (int product = 0; product < 10; product++) {
            Check.is("product " + product, x.product(product == 0 ? 255 : product), product);
        }
        Check.is("its functions", x.productOf(0, 0), 255);
        Check.is("another's functions", x.productOf(9, 0), 9);
        Check.is("its version", x.productOf(9, 1), 0);
        for (int hazard = 0; hazard < 8; hazard++) {
            Check.is("its risk before " + hazard, x.riskOf(9, hazard, false), 0);
            Check.is("its risk after " + hazard, x.riskOf(9, hazard, true), 0);
        }
    }

    private static void productRefuses() {
        for (int wrong : new int[] {0, 256, -1, LOW, HIGH}) {
            Check.argument("functions " + wrong, ProductsTest::plain, c -> c.product(wrong));
        }
        Check.state("an 11th product", ProductsTest::tenProducts, c -> c.product(1));
        Check.argument("an 11th product that is wrong", ProductsTest::tenProducts, c -> c.product(0));
    }

    private static void changeAnswers() {
        Conformary x = fine();
        Check.is("the same functions", x.change(0, 5), 1);
        Check.is("nothing is wanting still", x.wanting(0), 0);
        Check.is("others", x.change(0, 255), 2);
        Check.is("told so", x.productOf(0, 0), 255);
        Check.is("back is one more", x.change(0, 5), 3);
    }

    private static void changeRefuses() {
        for (int wrong : NO_PRODUCT) {
            Check.index("change product " + wrong, ProductsTest::fine, c -> c.change(wrong, 1));
        }
        for (int wrong : new int[] {0, 256, -1, LOW, HIGH}) {
            Check.argument("change to " + wrong, ProductsTest::fine, c -> c.change(0, wrong));
        }
        Check.index("no product and no functions", ProductsTest::fine, c -> c.change(1, 0));
    }

    private static void riskAnswers() {
        Conformary x = plain();
        Check.is("none as before", x.risk(0, 0, 0, 0), 0);
        Check.is("both higher, one version", x.risk(0, 0, 5, 4), 1);
        Check.is("before", x.riskOf(0, 0, false), 5);
        Check.is("after", x.riskOf(0, 0, true), 4);
        Check.is("the same", x.risk(0, 0, 5, 4), 1);
        Check.is("lower both", x.risk(0, 0, 4, 3), 1);
        Check.is("told so", x.riskOf(0, 0, false), 4);
        Check.is("after higher alone", x.risk(0, 0, 4, 4), 2);
        Check.is("before higher alone", x.risk(0, 0, 9, 4), 3);
        Check.is("before higher, after lower", x.risk(0, 7, 9, 0), 4);
        Check.is("before lower, after higher", x.risk(0, 7, 8, 8), 5);
        Check.is("of its hazard alone", x.riskOf(0, 6, false), 0);
        Check.is("after as high as before", x.risk(0, 3, 9, 9), 6);
        Check.is("told so, after", x.riskOf(0, 3, true), 9);
    }

    private static void riskRefuses() {
        for (int wrong : NO_PRODUCT) {
            Check.index("risk of product " + wrong, ProductsTest::fine, c -> c.risk(wrong, 0, 1, 1));
        }
        for (int wrong : new int[] {8, -1, LOW, HIGH}) {
            Check.index("risk of hazard " + wrong, ProductsTest::fine, c -> c.risk(0, wrong, 1, 1));
            Check.index("hazard and risk " + wrong, ProductsTest::fine, c -> c.risk(0, wrong, 10, 11));
        }
        for (int wrong : new int[] {10, -1, LOW, HIGH}) {
            Check.argument("risk before " + wrong, ProductsTest::fine, c -> c.risk(0, 2, wrong, 0));
        }
        for (int wrong : new int[] {9, -1, LOW, HIGH}) {
            Check.argument("risk after " + wrong, ProductsTest::fine, c -> c.risk(0, 2, 8, wrong));
        }
        Check.argument("after 1 above before 0", ProductsTest::fine, c -> c.risk(0, 2, 0, 1));
    }

    private static void nextVersionEndsAll() {
        checkEnded("by functions", fine(), c -> c.change(0, 1));
        checkEnded("by a risk before", fine(), c -> c.risk(0, 2, 8, 4));
        checkEnded("by a risk after", fine(), c -> c.risk(0, 2, 7, 5));
        Conformary x = fine();
        x.risk(0, 2, 5, 1);
        Check.is("lower risks end nothing: the version", x.productOf(0, 1), 1);
        Check.is("the body", x.productOf(0, 2), 0);
        Check.is("the declaration", x.productOf(0, 5), 0);
        Check.is("the ban goes on over versions", bannedThenChanged().wanting(0), 1);
    }

    private static Conformary bannedThenChanged() {
        Conformary x = banned();
        x.change(0, 1);
        return x;
    }

    private static void checkEnded(String how, Conformary x, Check.Call call) {
        Check.is("the version then " + how, call.on(x), 2);
        Check.is("no body " + how, x.productOf(0, 2), -1);
        Check.is("no last day " + how, x.productOf(0, 3), -1);
        Check.is("no visit " + how, x.productOf(0, 4), -1);
        Check.is("no declaration " + how, x.productOf(0, 5), -1);
        Check.is("no demand kept " + how, x.demands(0, true), 0);
        Check.is("not followed " + how, x.follow(0, 0, 1), 0);
        Check.is("no proof " + how, x.prove(0, 1), 1);
    }

    private static void followAnswers() {
        Conformary x = plain();
        x.standard(1, 0);
        Check.is("in none at first", x.follow(0, 0, 255), 0);
        Check.is("in all then", x.follow(0, 0, 6), 255);
        Check.is("the other one in none", x.follow(0, 1, 4), 0);
        Check.is("in place of all", x.follow(0, 0, 0), 6);
        Check.is("in none again", x.follow(0, 0, 0), 0);
        Check.is("what the standard is not for is told as well", x.follow(0, 1, 0), 4);
        Conformary y = plain();
        y.risk(0, 0, 1, 1);
        y.risk(0, 1, 1, 1);
        y.follow(0, 0, 2);
        Check.is("kept in what it follows alone", y.demands(0, true), 2);
        y.standard(1, 0);
        y.follow(0, 1, 3);
        Check.is("kept in what that standard is for", y.demands(0, true), 3);
        y.follow(0, 0, 0);
        Check.is("not in what it is not for", y.demands(0, true), 1);
    }

    private static void followRefuses() {
        for (int wrong : NO_PRODUCT) {
            Check.index("follow by product " + wrong, ProductsTest::fine, c -> c.follow(wrong, 0, 1));
        }
        for (int wrong : new int[] {1, -1, 12, LOW, HIGH}) {
            Check.index("follow standard " + wrong, ProductsTest::fine, c -> c.follow(0, wrong, 1));
        }
        for (int wrong : NO_SET) {
            Check.argument("follow in " + wrong, ProductsTest::fine, c -> c.follow(0, 0, wrong));
            Check.index("no standard and hazards " + wrong, ProductsTest::fine, c -> c.follow(0, 1, wrong));
        }
    }

    private static void proveAnswers() {
        Conformary x = plain();
        Check.is("one", x.prove(0, 4), 4);
        Check.is("more", x.prove(0, 3), 7);
        Check.is("again", x.prove(0, 1), 7);
        Check.is("all", x.prove(0, 255), 255);
        x.risk(0, 4, 1, 1);
        Check.is("the file is empty", x.prove(0, 8), 8);
        Check.is("not kept by another proof", x.demands(0, true), 0);
        x.prove(0, 16);
        Check.is("kept by its own", x.demands(0, true), 16);
    }

    private static void proveRefuses() {
        for (int wrong : NO_PRODUCT) {
            Check.index("prove for product " + wrong, ProductsTest::fine, c -> c.prove(wrong, 1));
        }
        for (int wrong : new int[] {0, 256, -1, LOW, HIGH}) {
            Check.argument("prove " + wrong, ProductsTest::fine, c -> c.prove(0, wrong));
        }
        Check.index("no product and no hazards", ProductsTest::fine, c -> c.prove(1, 0));
    }

    private static void declareAnswers() {
        Conformary x = plain();
        x.pass(3);
        Check.is("without demands", x.declare(0), 3);
        x.risk(0, 0, 3, 3);
        x.prove(0, 1);
        Check.is("the declaration is wanting", x.wanting(0), 6);
        Check.is("the day", x.declare(0), 3);
        Check.is("nothing is wanting", x.wanting(0), 0);
        x.pass(4);
        Check.is("declared once more", x.declare(0), 7);
        Check.is("the day of that", x.productOf(0, 5), 7);
    }

    private static void declareRefuses() {
        for (int wrong : NO_PRODUCT) {
            Check.index("declare product " + wrong, ProductsTest::fine, c -> c.declare(wrong));
        }
        Check.state("declare while 1 is wanting", ProductsTest::banned, c -> c.declare(0));
        Check.state("declare while 2 is wanting", () -> lacking(2), c -> c.declare(0));
        Check.state("declare while 3 is wanting", () -> lacking(3), c -> c.declare(0));
        Check.state("declare while 4 is wanting", () -> lacking(4), c -> c.declare(0));
        Check.state("declare while 5 is wanting", () -> lacking(5), c -> c.declare(0));
        Check.is("declare while 6 is wanting", lacking(6).declare(0), 0);
    }

    /** A product to which that is wanting, 2 to 6. */
    private static Conformary lacking(int lack) {
        Conformary x = plain();
        x.risk(0, 2, 7, lack == 2 ? 5 : 4);
        x.prove(0, lack == 3 ? 1 : 4);
        if (lack > 4) {
            x.certify(0, 0, 10);
        }
        if (lack > 5) {
            x.visit(0, true);
        }
        return x;
    }

    private static void demandsAnswers() {
        Conformary x = new Conformary();
        x.act(1, 0, 3, 0);
        x.act(2, 0, 6, 0);
        x.act(4, 0, 255, 0);
        x.product(3);
        Check.is("no risks, no demands", x.demands(0, false), 0);
        x.risk(0, 0, 1, 0);
        x.risk(0, 2, 5, 5);
        x.risk(0, 3, 9, 0);
        Check.is("of the acts that apply, with a risk", x.demands(0, false), 5);
        Check.is("none kept", x.demands(0, true), 0);
        x.prove(0, 255);
        Check.is("kept with a risk after of 4 at most", x.demands(0, true), 1);
        x.risk(0, 2, 5, 4);
        Check.is("kept at 4", x.demands(0, true), 5);
        Check.is("demands as they were", x.demands(0, false), 5);
        x.risk(0, 0, 0, 0);
        Check.is("no risk before, no demand", x.demands(0, false), 4);
    }

    private static void wayAnswers() {
        int[] ways = {0, 0, 0, 0, 1, 1, 1, 2, 2, 2};
        for (int before = 0; before <= 9; before++) {
            Conformary x = plain();
            x.risk(0, 5, before, 0);
            x.risk(0, 4, 1, 1);
            Check.is("the way by " + before, x.way(0), ways[before]);
        }
        Conformary x = new Conformary();
        x.act(1, 0, 1, 5);
        x.product(1);
        x.risk(0, 0, 4, 0);
        x.risk(0, 1, 9, 0);
        Check.is("without demands", x.way(0), 0);
        x.pass(5);
        Check.is("by the risks of its demands alone", x.way(0), 1);
    }

    private static void wantingAnswers() {
        Check.is("nothing", fine().wanting(0), 0);
        Check.is("no demands", plain().wanting(0), 0);
        for (int lack = 2; lack <= 6; lack++) {
            Check.is("wanting " + lack, lacking(lack).wanting(0), lack);
        }
        Conformary x = banned();
        Check.is("banned by 3", x.wanting(0), 1);
        x.ban(3, 0, true);
        Check.is("banned by 4", x.wanting(0), 1);
        x.ban(0, 0, false);
        x.ban(1, 0, false);
        Check.is("2 are not enough", x.wanting(0), 0);
        Conformary type = plain();
        type.risk(0, 0, 6, 0);
        type.prove(0, 1);
        Check.is("TYPE wants a certificate", type.wanting(0), 4);
        type.certify(0, 0, 10);
        Check.is("TYPE wants no visit", type.wanting(0), 6);
        Conformary declared = plain();
        declared.risk(0, 0, 3, 0);
        declared.prove(0, 1);
        Check.is("DECLARED wants no certificate", declared.wanting(0), 6);
        declared.risk(0, 0, 0, 0);
        Check.is("without demands no declaration", declared.wanting(0), 0);
        Conformary old = fine();
        old.change(0, 6);
        old.prove(0, 4);
        Check.is("a new version is not certified", old.wanting(0), 4);
    }

    private static void productOfAnswers() {
        Conformary x = plain();
        int[] due = {5, 0, -1, -1, -1, -1, 0};
        for (int what = 0; what <= 6; what++) {
            Check.is("a new product's " + what, x.productOf(0, what), due[what]);
        }
        Conformary y = fine();
        y.pass(2);
        y.place(0, 30);
        y.post(0, 4);
        y.visit(0, true);
        int[] then = {5, 1, 0, 100, 2, 0, 34};
        for (int what = 0; what <= 6; what++) {
            Check.is("a fine product's " + what, y.productOf(0, what), then[what]);
        }
        y.change(0, 1);
        Check.is("units of all versions", y.productOf(0, 6), 34);
        y.recall(0, 0, 0);
        Check.is("units ON the market alone", y.productOf(0, 6), 4);
        y.product(1);
        y.post(1, 10);
        Check.is("units of its own", y.productOf(0, 6), 4);
        Check.is("units of the other one", y.productOf(1, 6), 10);
    }

    private static void askedRefuse() {
        for (int wrong : NO_PRODUCT) {
            Check.index("demands to product " + wrong, ProductsTest::fine, c -> c.demands(wrong, true));
            Check.index("way of product " + wrong, ProductsTest::fine, c -> c.way(wrong));
            Check.index("wanting to product " + wrong, ProductsTest::fine, c -> c.wanting(wrong));
            Check.index("productOf product " + wrong, ProductsTest::fine, c -> c.productOf(wrong, 0));
            Check.index("riskOf product " + wrong, ProductsTest::fine, c -> c.riskOf(wrong, 0, false));
        }
        for (int wrong : new int[] {7, -1, LOW, HIGH}) {
            Check.argument("productOf what " + wrong, ProductsTest::fine, c -> c.productOf(0, wrong));
            Check.index("no product and what " + wrong, ProductsTest::fine, c -> c.productOf(1, wrong));
        }
        for (int wrong : new int[] {8, -1, LOW, HIGH}) {
            Check.index("riskOf hazard " + wrong, ProductsTest::fine, c -> c.riskOf(0, wrong, true));
        }
    }
}
