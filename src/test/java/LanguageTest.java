import java.io.IOException;
import java.lang.reflect.Field;
import java.lang.reflect.Method;
import java.lang.reflect.Modifier;
import java.nio.charset.StandardCharsets;
import java.nio.file.Files;
import java.nio.file.Path;
import java.util.ArrayList;
import java.util.List;
import java.util.Set;
import java.util.regex.Matcher;
import java.util.regex.Pattern;

/**
 * The rules of ../shared/LANGUAGE.md that can be seen in the text of the class, or by reflection. It allows
 * only what the class uses, which is less than the rules allow: more may be allowed here when it is needed.
 */
public final class LanguageTest {
    private static final Path SOURCE = Path.of("src/main/java/ClaimJudge.java");
    private static final Set<String> EXCEPTIONS = Set.of("IllegalStateException", "IllegalArgumentException",
            "IndexOutOfBoundsException");
    private static final Set<String> LIBRARY = Set.of("Arrays.fill", "Math.max");

    public static void main(String[] args) throws IOException {
        byte[] bytes = Files.readAllBytes(SOURCE);
        int above = 0;
        for (byte b : bytes) {
            above += b < 0 ? 1 : 0;
        }
        Checks.same("4: signs above 127", 0, above);
        String code = withoutTexts(new String(bytes, StandardCharsets.US_ASCII));
        words(code);
        library(code);
        exceptions(code);
        loops(code);
        List<Class<?>> classes = new ArrayList<>(List.of(ClaimJudge.class.getDeclaredClasses()));
        classes.add(ClaimJudge.class);
        Checks.same("11: at most twelve classes", true, classes.size() <= 12);
        for (Class<?> one : classes) {
            members(one);
        }
        lengths(code);
        Checks.finish();
    }

    /** Comments, texts and characters could hold any word. */
    private static String withoutTexts(String source) {
        return source.replaceAll("(?s)/\\*.*?\\*/", "").replaceAll("//[^\n]*", "")
                .replaceAll("\"[^\"\n]*\"", "\"\"").replaceAll("'[^'\n]'", "' '");
    }

    private static void words(String code) {
        String[] none = {"package", "synchronized", "volatile", "transient", "native", "assert", "finally", "try", "catch",
            "instanceof", "System", "Thread", "Object", "float", "NaN", "var", "sealed", "strictfp"};
        for (String word : none) {
            Checks.same("no " + word, false, Pattern.compile("\\b" + word + "\\b").matcher(code).find());
        }
        Checks.same("2: no lambda", false, code.contains("->"));
        Checks.same("2: no method reference", false, code.contains("::"));
        Checks.same("5: no static block", false, Pattern.compile("static\\s*\\{").matcher(code).find());
        Checks.same("10: no text joined by +", false, Pattern.compile("\"\\s*\\+|\\+\\s*\"").matcher(code).find());
    }

    private static void library(String code) {
        Matcher imports = Pattern.compile("(?m)^import (.*);").matcher(code);
        while (imports.find()) {
            Checks.same("4: import", "java.util.Arrays", imports.group(1));
        }
        Matcher calls = Pattern.compile("\\b((?:[A-Z]\\w*[a-z]\\w*)\\.[a-z]\\w*)\\(").matcher(code);
        while (calls.find()) {
            Checks.same("4: " + calls.group(1), true, LIBRARY.contains(calls.group(1)));
        }
    }

    private static void exceptions(String code) {
        Matcher thrown = Pattern.compile("\\bthrow\\b([^;]*);").matcher(code);
        while (thrown.find()) {
            Matcher known = Pattern.compile(" new (\\w+)\\((\"\")?\\)").matcher(thrown.group(1));
            Checks.same("6: throw" + thrown.group(1), true, known.matches() && EXCEPTIONS.contains(known.group(1)));
        }
    }

    /** Every loop counts up to a bound that stands in its own line. */
    private static void loops(String code) {
        Checks.same("9: no while", false, Pattern.compile("\\b(while|do)\\b").matcher(code).find());
        Matcher loops = Pattern.compile("\\bfor \\(([^\n]*)\\) \\{").matcher(code);
        Pattern counted = Pattern.compile("int (\\w+) = \\w+; \\1 <=? [\\w.]+(?: && [^;]*)?; \\1\\+\\+");
        while (loops.find()) {
            Checks.same("9: for (" + loops.group(1), true, counted.matcher(loops.group(1)).matches());
        }
        Checks.same("9: every for is looked at", code.split("\\bfor \\(").length,
                code.split("\\bfor \\([^\n]*\\) \\{").length);
    }

    private static void members(Class<?> one) {
        int fields = 0;
        for (Field field : one.getDeclaredFields()) {
            boolean fixed = Modifier.isFinal(field.getModifiers());
            if (Modifier.isStatic(field.getModifiers())) {
                boolean constant = field.getType().isPrimitive() || field.getType() == String.class;
                Checks.same("5: " + field, true, fixed && constant);
            } else {
                fields++;
                Checks.same("7: a reference that is set once: " + field, true, fixed || field.getType().isPrimitive());
            }
        }
        Checks.same("11: fields of " + one.getName(), true, fields <= 20);
        for (Method method : one.getDeclaredMethods()) {
            Checks.same("11: parameters of " + method, true, method.getParameterCount() <= 7);
        }
        if (one != ClaimJudge.class) {
            Checks.same("1: static " + one, true, Modifier.isStatic(one.getModifiers()));
        }
    }

    /** A method's head stands 4 or 8 columns from the left, and so does the brace behind its last line. */
    private static void lengths(String code) {
        String[] lines = code.replaceAll("\n +throws", " throws").split("\n", -1);
        for (int n = 0; n < lines.length; n++) {
            Matcher head = Pattern.compile("( {4}| {8})(?!if |for |switch )[A-Za-z][\\w ]*\\([^;]*\\{").matcher(lines[n]);
            if (head.matches()) {
                int end = n;
                while (end < lines.length && !lines[end].equals(head.group(1) + "}")) {
                    end++;
                }
                Checks.same("11: some sixty lines of " + lines[n].trim(), true, end - n <= 60);
            }
        }
    }
}
