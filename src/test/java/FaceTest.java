import java.lang.reflect.Constructor;
import java.lang.reflect.Field;
import java.lang.reflect.Method;
import java.lang.reflect.Modifier;
import java.util.Arrays;
import java.util.Set;
import java.util.TreeSet;

/** The public face is the document's, to the letter, and nothing else can be seen of the class. */
public final class FaceTest {
    private static final String[] FACE = {
        "int load() throws IllegalArgumentException",
        "int add() throws IllegalArgumentException",
        "int removeLast() throws IllegalStateException",
        "int statements()",
        "int kind(int) throws IndexOutOfBoundsException",
        "int target(int) throws IndexOutOfBoundsException",
        "int run(int, int, int) throws IllegalArgumentException",
        "int steps(int, int, int) throws IllegalArgumentException",
        "int demand(int) throws IndexOutOfBoundsException",
        "boolean demands(int, int, int, int) throws IndexOutOfBoundsException, IllegalArgumentException",
        "int assume(int, int, int) throws IndexOutOfBoundsException, IllegalArgumentException",
        "int verdict(int) throws IndexOutOfBoundsException",
        "int example(int) throws IndexOutOfBoundsException",
        "int endless()",
        "int proof()",
        "double provedShare()",
        "int least(int, int) throws IndexOutOfBoundsException",
        "int greatest(int, int) throws IndexOutOfBoundsException",
        "int widest(int) throws IndexOutOfBoundsException",
        "int append(int) throws IllegalArgumentException, IllegalStateException",
        "int clearBuffer()",
        "int firstError()",
        "int undo() throws IllegalStateException",
        "int savedStates()",
        "long digest()",
    };

    public static void main(String[] args) {
        Class<?> face = ClaimJudge.class;
        Checks.same("class", "public final", Modifier.toString(face.getModifiers()));
        Checks.same("NONE", -1, ClaimJudge.NONE);
        methods(face);
        fields(face);
        constructors(face);
        insides(face);
        Checks.finish();
    }

    private static void methods(Class<?> face) {
        Set<String> seen = new TreeSet<>();
        Set<String> publicNames = new TreeSet<>();
        for (Method method : face.getDeclaredMethods()) {
            if (Modifier.isPrivate(method.getModifiers())) {
                continue;
            }
            Checks.same(method.getName(), "public", Modifier.toString(method.getModifiers()));
            seen.add(signature(method));
            publicNames.add(method.getName());
        }
        Checks.same("methods", new TreeSet<>(Arrays.asList(FACE)).toString(), seen.toString());
        for (Method method : face.getDeclaredMethods()) {
            if (Modifier.isPrivate(method.getModifiers())) {
                Checks.same("public name of " + method, false, publicNames.contains(method.getName()));
            }
        }
    }

    private static String signature(Method method) {
        return method.getReturnType().getSimpleName() + " " + method.getName()
                + "(" + names(method.getParameterTypes()) + ")"
                + (method.getExceptionTypes().length == 0 ? "" : " throws " + names(method.getExceptionTypes()));
    }

    private static String names(Class<?>[] types) {
        StringBuilder joined = new StringBuilder();
        for (Class<?> type : types) {
            joined.append(joined.length() == 0 ? "" : ", ").append(type.getSimpleName());
        }
        return joined.toString();
    }

    private static void fields(Class<?> face) {
        for (Field field : face.getDeclaredFields()) {
            boolean isNone = field.getName().equals("NONE");
            Checks.same(field + " is private", !isNone, Modifier.isPrivate(field.getModifiers()));
            if (Modifier.isStatic(field.getModifiers())) {
                Checks.same(field + " is final", true, Modifier.isFinal(field.getModifiers()));
            }
        }
    }

    private static void constructors(Class<?> face) {
        Constructor<?>[] all = face.getDeclaredConstructors();
        Checks.same("constructors", 1, all.length);
        Checks.same("constructor", "public ClaimJudge()", all[0].toString());
    }

    private static void insides(Class<?> face) {
        for (Class<?> inside : face.getDeclaredClasses()) {
            int modifiers = inside.getModifiers();
            Checks.same(inside + " is static", true, Modifier.isStatic(modifiers));
            Checks.same(inside + " is hidden", false, Modifier.isPublic(modifiers) || Modifier.isProtected(modifiers));
        }
        Checks.same("at most twelve classes", true, face.getDeclaredClasses().length < 12);
    }
}
