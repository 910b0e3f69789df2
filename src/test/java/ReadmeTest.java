import java.io.IOException;
import java.lang.reflect.Method;
import java.lang.reflect.Modifier;
import java.nio.file.Files;
import java.nio.file.Path;
import java.util.HashMap;
import java.util.Map;
import java.util.regex.Matcher;
import java.util.regex.Pattern;
import java.util.stream.Stream;

/** README.md: its example answers as it says, and it names each call and each test. */
public final class ReadmeTest {
    private static final Path TESTS = Path.of("src", "test", "java");
    private static final Pattern CALL = Pattern.compile("^(?:int (\\w+) = )?market\\.(\\w+)\\((.*)\\); +// (-?\\d+):");
    private static final int CALLS_OF_THE_EXAMPLE = 12;

    private final String text = Files.readString(Path.of("README.md"));

    private ReadmeTest() throws IOException {
    }

    public static void main(String[] args) throws IOException {
        ReadmeTest readme = new ReadmeTest();
        readme.theExampleAnswersAsItSays();
        readme.eachCallIsNamed();
        readme.eachTestIsNamed();
        Check.end("ReadmeTest");
    }

    private void theExampleAnswersAsItSays() {
        Conformary x = new Conformary();
        Map<String, Integer> known = new HashMap<>();
        int count = 0;
        for (String line : text.split("\n")) {
            Matcher call = CALL.matcher(line);
            if (call.find()) {
                int due = Integer.parseInt(call.group(4));
                Check.is(line, new Calls(call.group(2), numbers(call.group(3), known)).on(x), due);
                known.put(call.group(1) == null ? "" : call.group(1), due);
                count++;
            }
        }
        Check.is("calls of the example", count, CALLS_OF_THE_EXAMPLE);
    }

    /** The arguments of a call, of which some are names of earlier answers. */
    private static int[] numbers(String arguments, Map<String, Integer> known) {
        String[] told = arguments.split(", ");
        int[] numbers = new int[told.length];
        for (int each = 0; each < told.length; each++) {
            numbers[each] = known.containsKey(told[each]) ? known.get(told[each]) : Integer.parseInt(told[each]);
        }
        return numbers;
    }

    private void eachCallIsNamed() {
        for (Method method : Conformary.class.getDeclaredMethods()) {
            if (Modifier.isPublic(method.getModifiers())) {
                Check.is("names " + method.getName(), text.contains("`" + method.getName() + "`"), true);
            }
        }
    }

    private void eachTestIsNamed() throws IOException {
        try (Stream<Path> files = Files.list(TESTS)) {
            for (Path file : (Iterable<Path>) files::iterator) {
                String name = file.getFileName().toString().replace(".java", "");
                if (name.endsWith("Test")) {
                    Check.is("names " + name, text.contains("| `" + name + "` |"), true);
                }
            }
        }
    }
}
