import java.lang.reflect.Constructor;
import java.lang.reflect.Field;
import java.lang.reflect.Method;
import java.lang.reflect.Modifier;
import java.util.Set;
import java.util.TreeSet;

/** The public face: the calls of the document and nothing else. */
public final class FaceTest {
    private static final String[] CALLS = {
        "int lay(int) IllegalArgumentException IllegalStateException",
        "int take(int) IllegalArgumentException IllegalStateException",
        "long mill(int) IllegalArgumentException IllegalStateException",
        "long millBack(int) IllegalArgumentException IllegalStateException",
        "int whyNot(int) IllegalArgumentException",
        "int periodOf(int) IllegalArgumentException NoSuchElementException",
        "int termAt(int,int) IllegalArgumentException NoSuchElementException",
        "int unitX(int) IllegalArgumentException NoSuchElementException",
        "int unitY(int) IllegalArgumentException NoSuchElementException",
        "int leastY(int) IllegalArgumentException NoSuchElementException",
        "int leastYBySearch(int) IllegalArgumentException NoSuchElementException",
        "int stones()",
        "boolean isLaid(int) IllegalArgumentException",
        "int stoneFrom(int) IllegalArgumentException NoSuchElementException",
        "int powerOf(int) IllegalArgumentException NoSuchElementException",
        "long xOf(int) IllegalArgumentException NoSuchElementException",
        "long yOf(int) IllegalArgumentException NoSuchElementException",
        "int signOf(int) IllegalArgumentException NoSuchElementException",
        "int signByRemainders(int) IllegalArgumentException NoSuchElementException",
        "float nearRoot(int) IllegalArgumentException NoSuchElementException",
        "int solutions()",
        "long xAt(int) IllegalArgumentException NoSuchElementException",
        "long xAtBySet(int) IllegalArgumentException NoSuchElementException",
        "int stoneAt(int) IllegalArgumentException NoSuchElementException",
        "int solutionsUpTo(long) IllegalArgumentException",
        "int milled()",
        "int minusStones()",
        "int keep()",
        "int goBack() IllegalStateException",
        "int states()",
        "int undo() IllegalStateException",
        "int type(int) IllegalArgumentException IllegalStateException",
        "int clearText()",
        "int faultPosition() NoSuchElementException",
        "int faultReason() NoSuchElementException",
        "int faultCause() NoSuchElementException",
        "int play() IllegalStateException",
    };

    public static void main(String[] args) {
        Check check = new Check();
        Set<String> want = new TreeSet<>(Set.of(CALLS));
        Set<String> got = new TreeSet<>();
        Set<String> hidden = new TreeSet<>();
        for (Method method : PellMills.class.getDeclaredMethods()) {
            if (method.isSynthetic()) {
                continue;
            }
            if (!Modifier.isPrivate(method.getModifiers())) {
                got.add(told(method));
            } else {
                hidden.add(method.getName());
            }
        }
        check.due("the calls of the face", got, want);
        for (Method method : PellMills.class.getMethods()) {
            check.due("a private method named " + method.getName(), hidden.contains(method.getName()), false);
        }
        for (Field field : PellMills.class.getDeclaredFields()) {
            check.due("the field " + field.getName() + " is private", Modifier.isPrivate(field.getModifiers()), true);
        }
        Constructor<?>[] made = PellMills.class.getDeclaredConstructors();
        check.due("constructors", made.length, 1);
        check.due("the constructor is public", Modifier.isPublic(made[0].getModifiers()), true);
        check.due("the class is public and final",
            Modifier.isPublic(PellMills.class.getModifiers()) && Modifier.isFinal(PellMills.class.getModifiers()), true);
        check.end();
    }

    private static String told(Method method) {
        StringBuilder text = new StringBuilder();
        text.append(method.getReturnType().getName()).append(' ').append(method.getName()).append('(');
        for (Class<?> type : method.getParameterTypes()) {
            text.append(text.charAt(text.length() - 1) == '(' ? "" : ",").append(type.getName());
        }
        text.append(')');
        for (Class<?> thrown : method.getExceptionTypes()) {
            text.append(' ').append(thrown.getSimpleName());
        }
        return text.toString();
    }
}
