import java.io.IOException;
import java.lang.reflect.Method;
import java.nio.charset.StandardCharsets;
import java.nio.file.Files;
import java.nio.file.Path;
import java.util.regex.Matcher;
import java.util.regex.Pattern;

/** The example in README.md: each call, in its order, answers what stands behind it. */
public final class ReadmeTest {
    private static final Pattern TEXT = Pattern.compile("String text = \"([^\"]+)\"");
    private static final Pattern CALL = Pattern.compile("(?m)^judge\\.(\\w+)\\(([0-9, ]*)\\); +// (-?\\d+):");

    public static void main(String[] args) throws IOException, ReflectiveOperationException {
        String readme = Files.readString(Path.of("README.md"), StandardCharsets.UTF_8);
        Matcher text = TEXT.matcher(readme);
        Checks.same("README.md has a program", true, text.find());
        ClaimJudge judge = new ClaimJudge();
        Checks.type(judge, text.group(1));
        int calls = 0;
        for (Matcher call = CALL.matcher(readme); call.find(); calls++) {
            Checks.same(call.group(), call.group(3), answer(judge, call.group(1), call.group(2)));
        }
        Checks.same("README.md has an example", true, calls > 5);
        for (Method method : ClaimJudge.class.getMethods()) {
            if (method.getDeclaringClass() == ClaimJudge.class) {
                Checks.same("README.md tells of " + method.getName(), true, readme.contains("`" + method.getName() + "`"));
            }
        }
        Checks.finish();
    }

    private static String answer(ClaimJudge judge, String name, String arguments) throws ReflectiveOperationException {
        String[] parts = arguments.isEmpty() ? new String[0] : arguments.split(", *");
        Class<?>[] types = new Class<?>[parts.length];
        Object[] values = new Object[parts.length];
        for (int n = 0; n < parts.length; n++) {
            types[n] = int.class;
            values[n] = Integer.valueOf(parts[n].trim());
        }
        return String.valueOf(ClaimJudge.class.getMethod(name, types).invoke(judge, values));
    }
}
