import java.io.IOException;
import java.lang.reflect.Constructor;
import java.lang.reflect.Field;
import java.lang.reflect.Method;
import java.lang.reflect.Modifier;
import java.nio.file.Files;
import java.nio.file.Path;
import java.util.ArrayList;
import java.util.List;
import java.util.regex.Matcher;
import java.util.regex.Pattern;

/** Rules of LANGUAGE.md that can be read off the source, which is named in the property "source". */
public final class ShapeTest {
    private static final String[] RULED_OUT = {
        "->", "::", "\\bcatch\\b", "\\btry\\b", "\\bfinally\\b", "\\bassert\\b", "\\bsynchronized\\b", "\\bpackage\\b",
        "\\bstatic \\{", "Exact\\(", "System\\.(?!arraycopy)", "\\bimport (?!java\\.util\\.(Arrays|NoSuchElementException);)",
        "\\bwhile \\(true\\)", "for \\(;;\\)", "Math\\.(?!floorMod)", "Arrays\\.(?!fill)", "\\bprotected\\b", "\" \\+", "\\+ \"",
    };
    private static final Pattern METHOD = Pattern.compile("^( {4}| {8})[\\w].*\\(.*\\{$");

    public static void main(String[] args) throws IOException {
        Check check = new Check();
        String source = Files.readString(Path.of(System.getProperty("source")));
        checkWords(check, source);
        checkLengths(check, source);
        checkClasses(check);
        check.end();
    }

    private static void checkWords(Check check, String source) {
        String code = source.replaceAll("(?s)/\\*.*?\\*/", "").replaceAll("//.*", "");
        for (String word : RULED_OUT) {
            Matcher found = Pattern.compile(word).matcher(code);
            check.due("rules 2, 4, 6, 9: " + word, found.find(), false);
        }
        for (char sign : source.toCharArray()) {
            check.due("rule 4: a sign of the source is 1 to 127", sign > 0 && sign < 128, true);
        }
    }

    private static void checkLengths(Check check, String source) {
        String[] lines = source.split("\n");
        for (int i = 0; i < lines.length; i++) {
            Matcher method = METHOD.matcher(lines[i]);
            if (method.matches()) {
                int end = i;
                while (!lines[end].equals(method.group(1) + "}")) {
                    end++;
                }
                check.due("rule 11: length of " + lines[i].strip(), end - i < 60, true);
            }
        }
    }

    private static void checkClasses(Check check) {
        List<Class<?>> classes = new ArrayList<>(List.of(PellMills.class.getDeclaredClasses()));
        classes.add(PellMills.class);
        check.due("rule 11: classes", classes.size() <= 12, true);
        for (Class<?> type : classes) {
            checkClass(check, type);
        }
    }

    private static void checkClass(Check check, Class<?> type) {
        int fields = 0;
        for (Field field : type.getDeclaredFields()) {
            boolean constant = Modifier.isStatic(field.getModifiers());
            fields += constant ? 0 : 1;
            check.due("rule 5: " + field + " is final", !constant || Modifier.isFinal(field.getModifiers()), true);
        }
        check.due("rule 11: fields of " + type, fields <= 20, true);
        for (Method method : type.getDeclaredMethods()) {
            check.due("rule 11: parameters of " + method, method.getParameterCount() <= 7, true);
        }
        for (Constructor<?> made : type.getDeclaredConstructors()) {
            check.due("rule 11: parameters of " + made, made.getParameterCount() <= 7, true);
        }
    }
}
