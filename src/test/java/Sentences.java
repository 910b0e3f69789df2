import java.lang.reflect.InvocationTargetException;
import java.lang.reflect.Method;
import java.util.ArrayList;
import java.util.Comparator;
import java.util.List;

/** Finds and runs the tests of sentences. */
final class Sentences {
    private Sentences() {
    }

    /** The methods of a class that are tests of sentences, by their names. */
    static List<Method> of(Class<?> tests) {
        List<Method> found = new ArrayList<>();
        for (Method method : tests.getDeclaredMethods()) {
            if (method.isAnnotationPresent(Sentence.class)) {
                found.add(method);
            }
        }
        found.sort(Comparator.comparing(Method::getName));
        return found;
    }

    /** Runs all tests of a class and ends the program as a test ends. */
    static void run(Class<?> tests) throws IllegalAccessException {
        for (Method test : of(tests)) {
            int promise = test.getAnnotation(Sentence.class).promise();
            Check.begin((promise == 0 ? "terms, " : "promise " + promise + ", ") + test.getName());
            int before = Check.count();
            test.setAccessible(true);
            try {
                test.invoke(null);
            } catch (InvocationTargetException thrown) {
                Check.is("ends by " + thrown.getCause(), false, true);
            }
            Check.is("has something to check", Check.count() > before, true);
        }
        Check.end(tests.getSimpleName());
    }
}
