import java.io.IOException;
import java.lang.reflect.Constructor;
import java.lang.reflect.Field;
import java.lang.reflect.Method;
import java.lang.reflect.Modifier;
import java.nio.file.Files;
import java.nio.file.Path;
import java.util.ArrayList;
import java.util.List;
import java.util.Set;
import java.util.TreeSet;
import java.util.regex.Matcher;
import java.util.regex.Pattern;

/** The rules of ../shared/LANGUAGE.md, as far as they can be seen from the class and its text. */
public final class LanguageTest {
    private static final Path SOURCE = Path.of("src", "main", "java", "Conformary.java");

    private static final Set<String> EXCEPTIONS = Set.of("IllegalStateException", "IllegalArgumentException",
            "IndexOutOfBoundsException", "ArithmeticException", "UnsupportedOperationException",
            "NoSuchElementException", "RuntimeException");
    private static final Set<String> LIBRARY = Set.of("String", "StringBuilder", "Integer", "Long", "Math", "ArrayList",
            "List", "Iterator", "Iterable", "Comparable", "System", "Arrays", "Override");
    private static final Set<String> STATIC_TYPES = Set.of("int", "long", "boolean", "char", "String",
            "int[]", "long[]", "char[]", "byte[]");

    /** What no rule leaves room for: words, and signs between words. */
    private static final String[] FORBIDDEN = {
        "\\bpackage\\b", "\\bfinally\\b", "\\bsynchronized\\b", "\\bassert\\b", "->", "::", "\\bstatic \\{",
        "\\b\\w+Exact\\b", "\\btry \\(", "\\bextends (Runtime)?Exception\\b", "\\bSystem\\.(?!arraycopy\\b)",
        "\\bgetMessage\\b", "\\b(equals|hashCode|toString)\\(\\) *\\{", "\\bMath\\.(random|sqrt|pow|floor|ceil|round)\\b"};

    private static final int LINES = 60;
    private static final int PARAMETERS = 7;
    private static final int CLASSES = 12;
    private static final int FIELDS = 20;

    /** The text as it is, and without comments and what stands inside its texts. */
    private final String text;
    private final String code;

    private LanguageTest() throws IOException {
        text = Files.readString(SOURCE);
        code = text.replaceAll("\"(\\\\.|[^\"\\\\\\n])*\"", "\"\"")
                .replaceAll("(?s)/\\*.*?\\*/", "").replaceAll("//[^\\n]*", "");
    }

    public static void main(String[] args) throws IOException {
        LanguageTest language = new LanguageTest();
        language.namesOnlyWhatTheRulesList();
        language.hasNothingForbidden();
        language.throwsWrittenTextsOnly();
        language.methodsAreShort();
        language.textsAreJoinedByNoPlus();
        classesAreFewAndStatic();
        Check.end("LanguageTest");
    }

    private void namesOnlyWhatTheRulesList() {
        Set<String> own = new TreeSet<>();
        for (Class<?> each : classes()) {
            own.add(each.getSimpleName());
        }
        Matcher names = Pattern.compile("\\b[A-Z][A-Za-z0-9]*[a-z][A-Za-z0-9]*\\b").matcher(code);
        while (names.find()) {
            String name = names.group();
            boolean isListed = own.contains(name) || LIBRARY.contains(name) || EXCEPTIONS.contains(name);
            Check.is("the rules list " + name, isListed, true);
        }
    }

    private void hasNothingForbidden() {
        for (String pattern : FORBIDDEN) {
            Check.is("there is no " + pattern, Pattern.compile(pattern).matcher(code).find(), false);
        }
        Check.is("signs 1 to 127 alone", text.chars().allMatch(sign -> sign > 0 && sign < 128), true);
    }

    private void throwsWrittenTextsOnly() {
        Matcher all = Pattern.compile("\\bthrow\\b").matcher(code);
        Pattern made = Pattern.compile("throw new (\\w+)\\((\"\")?\\);");
        while (all.find()) {
            Matcher one = made.matcher(code).region(all.start(), code.length());
            Check.is("it is thrown with a written text: " + line(all.start()), one.lookingAt(), true);
            Check.is("and of those that may be: " + line(all.start()), one.lookingAt() && EXCEPTIONS.contains(one.group(1)), true);
        }
    }

    private String line(int at) {
        return code.substring(at, code.indexOf('\n', at));
    }

    private void textsAreJoinedByNoPlus() {
        Check.is("no text is joined by +", Pattern.compile("\"\\s*\\+|\\+=?\\s*\"").matcher(code).find(), false);
    }

    private void methodsAreShort() {
        String[] lines = text.split("\n");
        for (int first = 0; first < lines.length; first++) {
            String indent = lines[first].replaceAll("\\S.*", "");
            boolean isMethod = indent.length() <= 8 && lines[first].matches(" +(?!if|for|while|switch|else|do|try).*\\).*\\{");
            if (isMethod) {
                int last = first;
                while (last < lines.length - 1 && !lines[last].equals(indent + "}")) {
                    last++;
                }
                String body = String.join("\n", List.of(lines).subList(first, last));
                Check.is("some sixty lines at most: " + lines[first], last - first < LINES, true);
                Check.is("no throw in the method of a try: " + lines[first],
                        body.contains("try {") && body.contains("throw new"), false);
            }
        }
    }

    private static void classesAreFewAndStatic() {
        Check.is("some twelve classes at most", classes().size() <= CLASSES, true);
        for (Class<?> each : classes()) {
            int access = each.getModifiers();
            boolean isInside = Modifier.isStatic(access) && !Modifier.isPublic(access) && !Modifier.isProtected(access);
            Check.is(each + " is the face, or inside it and its own", each == Conformary.class || isInside, true);
            for (Method method : each.getDeclaredMethods()) {
                Check.is(method + " takes few", method.getParameterCount() <= PARAMETERS, true);
            }
            for (Constructor<?> made : each.getDeclaredConstructors()) {
                Check.is(made + " takes few", made.getParameterCount() <= PARAMETERS, true);
            }
            fieldsAreFew(each);
        }
    }

    private static void fieldsAreFew(Class<?> each) {
        int count = 0;
        for (Field field : each.getDeclaredFields()) {
            if (Modifier.isStatic(field.getModifiers())) {
                Check.is(field + " is a constant", Modifier.isFinal(field.getModifiers()), true);
                Check.is(field + " may be a constant", STATIC_TYPES.contains(field.getType().getSimpleName()), true);
            } else {
                count++;
            }
        }
        Check.is(each + " has some twenty fields at most", count <= FIELDS, true);
    }

    private static List<Class<?>> classes() {
        List<Class<?>> found = new ArrayList<>(List.of(Conformary.class));
        found.addAll(List.of(Conformary.class.getDeclaredClasses()));
        return found;
    }
}
