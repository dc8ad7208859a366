import java.io.IOException;
import java.lang.reflect.InvocationTargetException;
import java.lang.reflect.Method;
import java.lang.reflect.Modifier;
import java.nio.charset.StandardCharsets;
import java.nio.file.Files;
import java.nio.file.Path;
import java.util.Set;
import java.util.TreeSet;
import java.util.regex.Matcher;
import java.util.regex.Pattern;

/** Makes the calls of README.md's examples, each of which must answer what stands behind it there. */
public final class ReadmeTests extends TokenCalls {
    private static final Path README = Path.of("README.md");
    private static final Pattern EXAMPLE = Pattern.compile("(?s)```java\\n(.*?)```");
    private static final Pattern CALL =
        Pattern.compile("rows\\.(\\w+)\\(([^)]*)\\);\\s+// (-?\\d+|true|false)\\b.*");
    private static final String MADE = "TokenRows rows = new TokenRows();";

    private static final Set<String> shown = new TreeSet<>();
    private static TokenRows rows = null;

    public static void main(String[] args) throws IOException, ReflectiveOperationException {
        String readme = Files.readString(README, StandardCharsets.UTF_8);
        Matcher example = EXAMPLE.matcher(readme);
        while (example.find()) {
            rows = null;
            for (String line : example.group(1).split("\n")) {
                follow(line.trim());
            }
        }
        for (Method m : TokenRows.class.getDeclaredMethods()) {
            if (Modifier.isPublic(m.getModifiers())) {
                due("an example shows " + m.getName(), shown.contains(m.getName()), 1);
            }
        }
        due("README.md says how to run the tests", readme.contains(".ci/run"), 1);
        finish();
    }

    private static void follow(String line) throws ReflectiveOperationException {
        Matcher call = CALL.matcher(line);
        if (line.equals(MADE)) {
            rows = new TokenRows();
        } else if (rows != null && call.matches()) {
            String answer = call.group(3);
            int want = answer.equals("true") ? 1 : answer.equals("false") ? 0 : Integer.parseInt(answer);
            due(line, answered(call.group(1), call.group(2)), want);
            shown.add(call.group(1));
        } else {
            due("a line of README.md is an answered call: " + line, line.isEmpty(), 1);
        }
    }

    private static int answered(String name, String list) throws ReflectiveOperationException {
        String[] words = list.isBlank() ? new String[0] : list.split(",");
        Object[] values = new Object[words.length];
        Class<?>[] types = new Class<?>[words.length];
        for (int k = 0; k < words.length; k++) {
            values[k] = Long.decode(words[k].trim()).intValue();
            types[k] = int.class;
        }
        try {
            Object got = TokenRows.class.getMethod(name, types).invoke(rows, values);
            return got instanceof Boolean ? ((Boolean) got ? 1 : 0) : (Integer) got;
        } catch (InvocationTargetException thrown) {
            throw new IllegalStateException(name + " threw", thrown.getCause());
        }
    }
}
