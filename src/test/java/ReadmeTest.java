import java.io.IOException;
import java.lang.reflect.InvocationTargetException;
import java.lang.reflect.Method;
import java.lang.reflect.Modifier;
import java.nio.file.Files;
import java.nio.file.Path;
import java.util.HashSet;
import java.util.Set;
import java.util.regex.Matcher;
import java.util.regex.Pattern;

/** Makes the calls in the examples of README.md, and holds their answers against what is written behind them. */
public final class ReadmeTest {
    private static final Pattern CALL =
            Pattern.compile("sheets\\.(\\w+)\\(([^)]*)\\); *// (\"[^\"]*\"|-?[0-9]+|true|false|throws \\w+)(: .*)?");
    private static final String MADE = "Sheetengine sheets = new Sheetengine();";
    private static final String[] GROUPS = {"### The input", "### Changes", "### What is asked of single places",
        "### What is asked of rows", "### All of it"};
    private static final Set<String> called = new HashSet<>();
    private static Sheetengine sheets;

    public static void main(String[] args) throws IOException {
        String page = Files.readString(Path.of("README.md"));
        boolean isExample = false;
        for (String line : page.split("\n")) {
            if (line.startsWith("```")) {
                isExample = line.equals("```java");
            } else if (isExample) {
                example(line);
            }
        }
        complete(page);
        Check.end();
    }

    private static void example(String line) {
        if (line.equals(MADE)) {
            sheets = new Sheetengine();
            return;
        }
        Matcher m = CALL.matcher(line);
        Check.due("a line of an example that can be run: " + line, m.matches() && sheets != null, true);
        if (m.matches() && sheets != null) {
            called.add(m.group(1));
            Check.due("README.md: " + line, answer(m.group(1), m.group(2)), m.group(3));
        }
    }

    private static String answer(String name, String told) {
        String[] parts = told.isEmpty() ? new String[0] : told.split(", ");
        for (Method method : Sheetengine.class.getDeclaredMethods()) {
            boolean isIt = method.getName().equals(name) && Modifier.isPublic(method.getModifiers());
            if (isIt && method.getParameterCount() == parts.length) {
                return answer(method, parts);
            }
        }
        return "no such call";
    }

    private static String answer(Method method, String[] parts) {
        Object[] arguments = new Object[parts.length];
        for (int k = 0; k < parts.length; k++) {
            boolean isTruth = method.getParameterTypes()[k] == boolean.class;
            arguments[k] = isTruth ? (Object) Boolean.valueOf(parts[k]) : (Object) Integer.valueOf(parts[k]);
        }
        try {
            Object answer = method.invoke(sheets, arguments);
            return answer instanceof String ? "\"" + answer + "\"" : String.valueOf(answer);
        } catch (InvocationTargetException e) {
            return "throws " + e.getCause().getClass().getSimpleName();
        } catch (IllegalAccessException e) {
            return "no access";
        }
    }

    /** The page tells each group of calls and how the tests are run, and shows every call of the face. */
    private static void complete(String page) {
        for (String group : GROUPS) {
            Check.due("README.md has " + group, page.contains("\n" + group + "\n"), true);
        }
        for (Method method : Sheetengine.class.getDeclaredMethods()) {
            if (Modifier.isPublic(method.getModifiers())) {
                Check.due("an example in README.md calls " + method.getName(), called.contains(method.getName()), true);
                Check.due("a table in README.md tells " + method.getName(), page.contains("`" + method.getName() + "("), true);
            }
        }
        Check.due("README.md tells .ci/run", page.contains("`.ci/run`"), true);
    }
}
