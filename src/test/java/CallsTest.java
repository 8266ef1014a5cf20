import java.io.File;
import java.io.IOException;
import java.lang.reflect.Field;
import java.net.URL;
import java.net.URLClassLoader;
import java.nio.file.Files;
import java.nio.file.Path;
import java.util.ArrayList;
import java.util.List;
import javax.tools.ToolProvider;

/** No test goes by an answer behind the 512th call of an object; the tests are compiled once more, with calls that are counted. */
public final class CallsTest {
    private static final int MOST_CALLS = 512;
    private static final String[] TESTS = {
        "ChangesTest", "RootsTest", "StonesTest", "SolutionsTest", "AccountsTest", "TextsTest", "ModelTest", "ReadmeTest",
    };
    private static final String CLASS = "public final class PellMills {";
    private static final String COUNTER = CLASS + " static int mostCalls; private int calls;"
        + " private void count() { calls++; mostCalls = Math.max(mostCalls, calls);"
        + " if (calls == " + (MOST_CALLS + 1) + ") { throw new AssertionError(\"a call too many of one object\"); } }";

    public static void main(String[] args) throws IOException, ReflectiveOperationException {
        Path folder = Files.createTempDirectory("counted");
        try {
            run(folder);
        } finally {
            for (File file : folder.toFile().listFiles()) {
                file.delete();
            }
            Files.delete(folder);
        }
    }

    private static void run(Path folder) throws IOException, ReflectiveOperationException {
        String source = Files.readString(Path.of(System.getProperty("source")));
        Path counted = folder.resolve("PellMills.java");
        Files.writeString(counted, source.replace(CLASS, COUNTER).replaceAll("(?m)^    public \\w+ \\w+\\(.*\\{$", "$0 count();"));
        List<String> words = new ArrayList<>(List.of("-nowarn", "-encoding", "UTF-8", "-d", folder.toString(), counted.toString()));
        for (File test : new File(System.getProperty("tests")).listFiles()) {
            words.add(test.getPath());
        }
        Check check = new Check();
        check.due("javac", ToolProvider.getSystemJavaCompiler().run(null, null, null, words.toArray(new String[0])), 0);
        URL[] places = {folder.toUri().toURL()};
        try (URLClassLoader loader = new URLClassLoader(places, ClassLoader.getPlatformClassLoader())) {
            for (String test : TESTS) {
                loader.loadClass(test).getMethod("main", String[].class).invoke(null, (Object) new String[0]);
            }
            Field most = loader.loadClass("PellMills").getDeclaredField("mostCalls");
            most.setAccessible(true);
            check.due("the most calls of one object", most.getInt(null), MOST_CALLS);
        }
        check.end();
    }
}
