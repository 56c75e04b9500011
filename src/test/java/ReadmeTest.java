import java.io.IOException;
import java.lang.reflect.InvocationTargetException;
import java.lang.reflect.Method;
import java.lang.reflect.Modifier;
import java.nio.file.Files;
import java.nio.file.Path;
import java.util.HashSet;
import java.util.List;
import java.util.Set;
import java.util.regex.Matcher;
import java.util.regex.Pattern;

/** README.md, read from the directory that the test is run in: each call that it shows answers so. */
public final class ReadmeTest {
    private static final Pattern CALL = Pattern.compile("x\\.(\\w+)\\((.*)\\); *// ([^ :]+)(: .*)?");
    private static final String MAKE = "RuleSteps x = new RuleSteps();";

    private final Check check = new Check("README.md");
    private final Set<String> shown = new HashSet<>();
    private RuleSteps x = null;

    public static void main(String[] args) throws IOException {
        new ReadmeTest().all(Files.readAllLines(Path.of("README.md")));
    }

    private void all(List<String> lines) {
        boolean inJava = false;
        for (String line : lines) {
            if (line.startsWith("```")) {
                inJava = line.equals("```java");
                x = null;
            } else if (inJava) {
                show(line);
            }
        }
        for (Method method : RuleSteps.class.getDeclaredMethods()) {
            check.that(method.getName() + "() is shown",
                    !Modifier.isPublic(method.getModifiers()) || shown.contains(method.getName()));
        }
        check.end();
    }

    private void show(String line) {
        Matcher call = CALL.matcher(line);
        if (line.equals(MAKE)) {
            x = new RuleSteps();
        } else if (x == null || !call.matches()) {
            check.that("a line that can be tried: " + line, false);
        } else {
            shown.add(call.group(1));
            check.same(line, outcome(call.group(1), call.group(2)), call.group(3));
        }
    }

    private String outcome(String name, String arguments) {
        String[] texts = arguments.isEmpty() ? new String[0] : arguments.split(", ");
        Object[] values = new Object[texts.length];
        Class<?>[] types = new Class<?>[texts.length];
        for (int k = 0; k < texts.length; k++) {
            boolean isBoolean = texts[k].equals("true") || texts[k].equals("false");
            types[k] = isBoolean ? boolean.class : int.class;
            values[k] = isBoolean ? (Object) Boolean.valueOf(texts[k]) : (Object) Integer.valueOf(texts[k]);
        }
        try {
            return String.valueOf(RuleSteps.class.getMethod(name, types).invoke(x, values));
        } catch (InvocationTargetException e) {
            return e.getCause().getClass().getSimpleName();
        } catch (ReflectiveOperationException e) {
            return "no such call: " + e;
        }
    }
}
