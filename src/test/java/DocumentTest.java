import java.io.IOException;
import java.lang.reflect.Method;
import java.nio.file.Files;
import java.nio.file.Path;
import java.util.ArrayList;
import java.util.List;
import java.util.Map;
import java.util.TreeMap;

/**
 * Each test's sentence stands in ../shared/DOC.md, under its promise; and each line of the promises
 * and each sentence ahead of them has a test.
 */
public final class DocumentTest {
    private static final Path DOCUMENT = Path.of("..", "shared", "DOC.md");
    private static final int PROMISES = 33;

    private static final Class<?>[] TESTS = {
        TermsTest.class, TermsOfActsTest.class, TermsOfProductsTest.class, TermsOfBodiesTest.class,
        TermsOfTheMarketTest.class, ActsTest.class, ProductsTest.class, BodiesTest.class, MarketTest.class};

    /** The lines of each promise; under 0, those of the terms ahead of them. */
    private final Map<Integer, List<String>> lines = new TreeMap<>();

    public static void main(String[] args) throws IOException {
        DocumentTest document = new DocumentTest();
        document.read();
        document.everySentenceOfATestStandsThere();
        document.everyLineOfAPromiseHasATest();
        document.everySentenceOfTheTermsHasATest();
        Check.end("DocumentTest");
    }

    private void read() throws IOException {
        int promise = 0;
        boolean isPromised = true;
        boolean isCode = false;
        for (String line : Files.readAllLines(DOCUMENT)) {
            isCode ^= line.startsWith("```");
            if (line.startsWith("## Promise ")) {
                promise = Integer.parseInt(line.substring("## Promise ".length(), line.indexOf(':')));
            }
            isPromised &= !line.equals("## Not promised");
            if (isPromised && !isCode && !line.startsWith("```") && !line.startsWith("#") && !line.isBlank()) {
                lines.computeIfAbsent(promise, none -> new ArrayList<>()).add(line);
            }
        }
        Check.is("the terms and the promises", lines.size(), PROMISES + 1);
    }

    private void everySentenceOfATestStandsThere() {
        for (Class<?> tests : TESTS) {
            for (Method test : Sentences.of(tests)) {
                Sentence sentence = test.getAnnotation(Sentence.class);
                for (String part : sentence.value()) {
                    boolean isThere = false;
                    for (String line : lines.getOrDefault(sentence.promise(), List.of())) {
                        isThere |= line.contains(part);
                    }
                    Check.is(tests.getSimpleName() + "." + test.getName() + " is of promise " + sentence.promise()
                            + ", where this stands: " + part, isThere, true);
                }
            }
        }
    }

    private void everyLineOfAPromiseHasATest() {
        for (int promise = 1; promise <= PROMISES; promise++) {
            for (String line : lines.getOrDefault(promise, List.of())) {
                Check.is("promise " + promise + " has a test of: " + line, hasTest(promise, line), true);
            }
        }
    }

    private void everySentenceOfTheTermsHasATest() {
        for (String line : lines.getOrDefault(0, List.of())) {
            for (String sentence : line.split("(?<=[.)]) (?=[A-Z])")) {
                if (isOfTheTerms(sentence)) {
                    Check.is("the terms have a test of: " + sentence, hasTest(0, sentence), true);
                }
            }
        }
    }

    /** No heading, not the summary at the top, nor what the interface says between its calls. */
    private static boolean isOfTheTerms(String sentence) {
        return sentence.endsWith(".")
                && !sentence.startsWith("Whether a thing may be sold as safe:")
                && !sentence.startsWith("Ahead of the calls ");
    }

    private static boolean hasTest(int promise, String sentence) {
        for (Class<?> tests : TESTS) {
            for (Method test : Sentences.of(tests)) {
                Sentence told = test.getAnnotation(Sentence.class);
                for (String part : told.value()) {
                    if (told.promise() == promise && sentence.contains(part)) {
                        return true;
                    }
                }
            }
        }
        return false;
    }
}
