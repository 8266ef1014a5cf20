import java.io.IOException;
import java.nio.file.Files;
import java.nio.file.Path;
import java.util.List;
import java.util.Set;
import java.util.TreeSet;

/** Each sentence of the document is quoted by a test, and each quoted one is there; it is named in the property "document". */
public final class SentencesTest {
    private static final String CUT = "...";
    private static final String[] NO_SENTENCES = {"## The public face", "## Not promised"};

    public static void main(String[] args) throws IOException {
        Path document = Path.of(System.getProperty("document"));
        if (!Files.exists(document)) {
            System.out.println("no document to compare with at " + document);
            return;
        }
        Check tests = new Check();
        ChangesTest.run(tests);
        RootsTest.run(tests);
        StonesTest.run(tests);
        SolutionsTest.run(tests);
        AccountsTest.run(tests);
        TextsTest.run(tests);
        Set<String> quoted = new TreeSet<>(tests.sentences());
        Set<String> told = sentences(Files.readAllLines(document));
        Check check = new Check();
        for (int promise = 1; promise <= 38; promise++) {
            String heading = "Promise " + promise + " | ";
            check.due("the document has sentences of " + heading, told.stream().anyMatch(sentence -> sentence.startsWith(heading)), true);
        }
        for (String sentence : told) {
            check.due("quoted is: " + sentence, quoted.stream().anyMatch(words -> fits(words, sentence)), true);
        }
        for (String words : quoted) {
            check.due("in the document is: " + words, told.stream().filter(sentence -> fits(words, sentence)).count(), 1);
        }
        check.end();
    }

    private static boolean fits(String words, String sentence) {
        return words.endsWith(CUT) ? sentence.startsWith(words.substring(0, words.length() - CUT.length())) : words.equals(sentence);
    }

    private static Set<String> sentences(List<String> lines) {
        Set<String> told = new TreeSet<>();
        String heading = "";
        boolean isCode = false;
        for (String line : lines) {
            if (line.startsWith("```")) {
                isCode = !isCode;
            } else if (line.startsWith("#")) {
                heading = List.of(NO_SENTENCES).contains(line) ? "" : line.replaceAll("^#+ |:.*", "");
            } else if (line.equals("Roots, terms, units")) {
                heading = line;
            } else if (!isCode && !heading.isEmpty()) {
                addSentences(told, heading, line);
            }
        }
        return told;
    }

    private static void addSentences(Set<String> told, String heading, String line) {
        String text = line.startsWith("`") ? line.substring(line.indexOf("`: ") + 3) : line.startsWith("- ") ? line.substring(2) : line;
        for (String sentence : text.replace("`", "").split("(?<=\\.) ")) {
            boolean isTitle = heading.equals("PellMills") || heading.equals("Terms") || sentence.startsWith("A mill of stones ");
            if (!sentence.isEmpty() && !isTitle && !sentence.startsWith("Ahead of the calls ")) {
                told.add(heading + " | " + sentence);
            }
        }
    }
}
