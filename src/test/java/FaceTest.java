import java.lang.reflect.Constructor;
import java.lang.reflect.Field;
import java.lang.reflect.Method;
import java.lang.reflect.Modifier;
import java.util.Arrays;
import java.util.Set;
import java.util.TreeSet;

/** The face: just the members of the document, and the constants' values. */
public final class FaceTest {
    private static final String I = "IndexOutOfBoundsException", A = "IllegalArgumentException", S = "IllegalStateException";

    private static final String[] METHODS = {
        "int act(int,int,int,int)" + of(A, S), "boolean special(int,int)" + of(I, A, S),
        "int standard(int,int)" + of(A, S), "int withdraw(int,int)" + of(I, A), "int restrict(int,int)" + of(I, A),
        "int product(int)" + of(A, S), "int change(int,int)" + of(I, A), "int risk(int,int,int,int)" + of(I, A),
        "int follow(int,int,int)" + of(I, A), "int prove(int,int)" + of(I, A), "int declare(int)" + of(I, S),
        "int body(int)" + of(A, S), "boolean suspend(int,boolean)" + of(I), "int certify(int,int,int)" + of(I, A, S),
        "int transfer(int,int)" + of(I, S), "boolean visit(int,boolean)" + of(I),
        "int place(int,int)" + of(I, A, S), "int post(int,int)" + of(I, A, S),
        "int sample(int,int,int,int)" + of(I, A), "int event(int,int,int)" + of(I, A),
        "int recall(int,int,int)" + of(I, A), "int ban(int,int,boolean)" + of(I), "int pass(int)" + of(A, S),
        "int day()" + of(), "boolean applies(int,int)" + of(I), "int demands(int,boolean)" + of(I),
        "int way(int)" + of(I), "int wanting(int)" + of(I), "int productOf(int,int)" + of(I, A),
        "int riskOf(int,int,boolean)" + of(I), "int batchOf(int,int)" + of(I, A), "int wantingAnew(int)" + of(I)};

    private static final String[] CONSTANTS = {"NONE=-1", "DECLARED=0", "TYPE=1", "QUALITY=2",
        "ON=0", "RECALLED=1", "PASSED=0", "OPEN=1", "FAILED=2"};

    public static void main(String[] args) throws IllegalAccessException {
        methods();
        constants();
        noPrivateMethodBearsAPublicName();
        Check.end("FaceTest");
    }

    private static String of(String... thrown) {
        return " " + String.join(" ", thrown);
    }

    private static void methods() {
        Set<String> seen = new TreeSet<>();
        for (Method method : Conformary.class.getDeclaredMethods()) {
            if (!Modifier.isPrivate(method.getModifiers())) {
                Check.is(method + " is public and no more", Modifier.toString(method.getModifiers()), "public");
                seen.add(told(method));
            }
        }
        Check.is("the methods", seen, new TreeSet<>(Arrays.asList(METHODS)));
        Constructor<?>[] constructors = Conformary.class.getDeclaredConstructors();
        Check.is("constructors", constructors.length, 1);
        Check.is("the constructor", constructors[0].toString(), "public Conformary()");
        Check.is("the class", Modifier.toString(Conformary.class.getModifiers()), "public final");
    }

    private static String told(Method method) {
        StringBuilder line = new StringBuilder(method.getReturnType() + " " + method.getName() + "(");
        for (Class<?> type : method.getParameterTypes()) {
            line.append(line.charAt(line.length() - 1) == '(' ? "" : ",").append(type);
        }
        line.append(")");
        String[] thrown = new String[method.getExceptionTypes().length];
        for (int i = 0; i < thrown.length; i++) {
            thrown[i] = method.getExceptionTypes()[i].getSimpleName();
        }
        return line + of(thrown);
    }

    private static void constants() throws IllegalAccessException {
        Set<String> seen = new TreeSet<>();
        for (Field field : Conformary.class.getDeclaredFields()) {
            if (!Modifier.isPrivate(field.getModifiers())) {
                Check.is(field + " is a constant", Modifier.toString(field.getModifiers()), "public static final");
                seen.add(field.getName() + "=" + field.getInt(null));
            }
        }
        Check.is("the constants", seen, new TreeSet<>(Arrays.asList(CONSTANTS)));
    }

    private static void noPrivateMethodBearsAPublicName() {
        Set<String> face = new TreeSet<>();
        for (Method method : Conformary.class.getMethods()) {
            face.add(method.getName());
        }
        for (Method method : Conformary.class.getDeclaredMethods()) {
            boolean isFree = Modifier.isPublic(method.getModifiers()) || !face.contains(method.getName());
            Check.is("the name of " + method + " is free", isFree, true);
        }
        for (Class<?> inside : Conformary.class.getDeclaredClasses()) {
            for (Method method : inside.getDeclaredMethods()) {
                Check.is("the name of " + method + " is free", face.contains(method.getName()), false);
            }
        }
    }
}
