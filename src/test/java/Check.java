import java.util.Set;
import java.util.TreeSet;

/** Counts the answers of one test that are not the due ones, and the sentences of the document that it looks at. */
final class Check {
    static final String ARGUMENT = "IllegalArgumentException";
    static final String STATE = "IllegalStateException";
    static final String NONE = "NoSuchElementException";

    private static final int[] WRONG_NUMBERS = {1, 61, 0, -1, -2, -60, 258, Integer.MIN_VALUE, Integer.MAX_VALUE};

    interface Call {
        Object answer();
    }

    interface CallOn {
        Object answer(PellMills mills);
    }

    interface CallOfNumber {
        Object answer(PellMills mills, int number);
    }

    private int wrong = 0;
    private String heading = "";
    private String sentence = "";
    private int answersOfSentence = 0;
    private final Set<String> sentences = new TreeSet<>();

    /** What follows is about a part of the document; its sentences are quoted one by one. */
    void heading(String ofDocument) {
        endSentence();
        heading = ofDocument;
    }

    void sentence(String ofDocument) {
        endSentence();
        sentence = heading + " | " + ofDocument;
        answersOfSentence = 0;
    }

    private void endSentence() {
        if (!sentence.isEmpty()) {
            due("some answer is looked at for: " + sentence, answersOfSentence > 0, true);
            sentences.add(sentence);
        }
        sentence = "";
    }

    /** Those quoted so far, each behind its heading. */
    Set<String> sentences() {
        endSentence();
        return sentences;
    }

    void due(String call, Object got, Object want) {
        answersOfSentence++;
        if (!got.equals(want)) {
            wrong++;
            System.out.println((sentence.isEmpty() ? heading : sentence) + ": " + call + " answered " + got + ", due is " + want);
        }
    }

    void due(String call, long got, long want) {
        due(call, (Object) got, (Object) want);
    }

    void dueThrow(String call, String exception, Call made) {
        due(call, outcome(made), "throws." + exception);
    }

    /** The call throws this very exception, and nothing can be told from an object that did not get the call. */
    void refused(String call, String exception, Scene scene, CallOn made) {
        PellMills mills = scene.made();
        due(call + " in " + scene.name(), outcome(() -> made.answer(mills)), "throws." + exception);
        due("what is there after " + call + " in " + scene.name(), Look.at(mills), Look.at(scene.made()));
    }

    /** The call is not refused, and nothing can be told from an object that did not get the call. */
    void changesNothing(String call, Scene scene, CallOn made) {
        PellMills mills = scene.made();
        due(call + " throws in " + scene.name(), outcome(() -> made.answer(mills)).toString().startsWith("throws."), false);
        due("what is there after " + call + " in " + scene.name(), Look.at(mills), Look.at(scene.made()));
    }

    /** At the ends of the range, and inside, the number is no reason for a refusal. */
    void numbersFrom2To60(CallOfNumber made) {
        for (Scene scene : Scene.ALL) {
            for (int number : new int[] {2, 3, 59, 60}) {
                PellMills mills = scene.made();
                Object outcome = outcome(() -> made.answer(mills, number));
                due("the call with " + number + " in " + scene.name() + " is refused for it", outcome.equals("throws." + ARGUMENT), false);
            }
        }
    }

    /** Beyond the ends of the range the number is refused, whatever else is a reason. */
    void numbersOutOfRange(CallOfNumber made) {
        for (Scene scene : Scene.ALL) {
            for (int number : WRONG_NUMBERS) {
                refused("the call with " + number, ARGUMENT, scene, mills -> made.answer(mills, number));
            }
        }
    }

    void end() {
        endSentence();
        System.out.println(wrong == 0 ? "all answers are as due" : wrong + " answers are not as due");
        if (wrong != 0) {
            System.exit(1);
        }
    }

    /** The answer, or the very class of what was thrown: an exception of the machine is none that is due. */
    static Object outcome(Call made) {
        try {
            return made.answer();
        } catch (RuntimeException e) {
            return "throws." + e.getClass().getSimpleName();
        }
    }
}
