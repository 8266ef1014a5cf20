import java.util.NoSuchElementException;

/** Counts the answers of one test that are not the due ones. */
final class Check {
    static final String ARGUMENT = "IllegalArgumentException";
    static final String STATE = "IllegalStateException";
    static final String NONE = "NoSuchElementException";

    interface Call {
        Object answer();
    }

    private int wrong = 0;

    void due(String call, Object got, Object want) {
        if (!got.equals(want)) {
            wrong++;
            System.out.println(call + " answered " + got + ", due is " + want);
        }
    }

    void due(String call, long got, long want) {
        due(call, (Object) got, (Object) want);
    }

    void dueThrow(String call, String exception, Call made) {
        due(call, outcome(made), "throws." + exception);
    }

    void end() {
        System.out.println(wrong == 0 ? "all answers are as due" : wrong + " answers are not as due");
        if (wrong != 0) {
            System.exit(1);
        }
    }

    /** The answer, or the very class of what was thrown: an exception of the machine is none that is due. */
    static Object outcome(Call made) {
        try {
            return made.answer();
        } catch (RuntimeException e) {
            return "throws." + e.getClass().getSimpleName();
        }
    }

    static PellMills milled(int... numbers) {
        PellMills mills = new PellMills();
        for (int number : numbers) {
            if (!mills.isLaid(number)) {
                mills.lay(number);
            } else {
                mills.mill(number);
            }
        }
        return mills;
    }

    static void type(PellMills mills, String text) {
        for (int i = 0; i < text.length(); i++) {
            mills.type(text.charAt(i));
        }
    }
}
