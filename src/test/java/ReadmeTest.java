import java.io.IOException;
import java.lang.reflect.InvocationTargetException;
import java.lang.reflect.Method;
import java.lang.reflect.Modifier;
import java.nio.file.Files;
import java.nio.file.Path;
import java.util.Map;
import java.util.TreeMap;
import java.util.regex.Matcher;
import java.util.regex.Pattern;

/** The examples of README.md, which is named in the property "readme", answer as they say, and each call is named there. */
public final class ReadmeTest {
    private static final String MADE = "PellMills mills = new PellMills();";
    private static final Pattern CALL = Pattern.compile("mills\\.(\\w+)\\((-?\\d*)\\); +// (throws )?(-?\\w+).*");
    private static final Pattern TYPED = Pattern.compile("for \\(char c : \"([ -~]*)\"\\.toCharArray\\(\\)\\) mills\\.type\\(c\\);");

    private final Check check = new Check();
    private final Map<String, Method> calls = new TreeMap<>();
    private PellMills mills = null;
    private int answers = 0;

    public static void main(String[] args) throws IOException, IllegalAccessException {
        new ReadmeTest().run(Files.readString(Path.of(System.getProperty("readme"))));
    }

    private void run(String readme) throws IllegalAccessException {
        for (Method method : PellMills.class.getDeclaredMethods()) {
            if (Modifier.isPublic(method.getModifiers())) {
                calls.put(method.getName(), method);
                check.due("README.md names " + method.getName(), readme.contains("`" + method.getName() + "`"), true);
            }
        }
        boolean isCode = false;
        for (String line : readme.split("\n")) {
            if (line.startsWith("```")) {
                isCode = line.equals("```java");
            } else if (isCode) {
                runLine(line);
            }
        }
        check.due("README.md has examples", answers > 0, true);
        check.end();
    }

    private void runLine(String line) throws IllegalAccessException {
        Matcher call = CALL.matcher(line);
        Matcher typed = TYPED.matcher(line);
        if (line.equals(MADE)) {
            mills = new PellMills();
        } else if (typed.matches()) {
            Scene.type(mills, typed.group(1));
        } else if (call.matches() && calls.containsKey(call.group(1))) {
            answers++;
            String want = (call.group(3) == null ? "" : "throws.") + call.group(4);
            check.due("README.md: " + line, answer(calls.get(call.group(1)), call.group(2)), want);
        } else {
            check.due("README.md has the line " + line + ", which this test can read", false, true);
        }
    }

    private String answer(Method method, String argument) throws IllegalAccessException {
        Class<?>[] types = method.getParameterTypes();
        check.due("arguments of " + method, types.length, argument.isEmpty() ? 0 : 1);
        try {
            if (argument.isEmpty()) {
                return String.valueOf(method.invoke(mills));
            }
            Object number = types[0] == long.class ? (Object) Long.parseLong(argument) : (Object) Integer.parseInt(argument);
            return String.valueOf(method.invoke(mills, number));
        } catch (InvocationTargetException e) {
            return "throws." + e.getCause().getClass().getSimpleName();
        }
    }
}
