import java.util.Random;

/** Long runs of calls of all kinds, each answer beside that of a model written another way. */
public final class ModelTest {
    private static final int RUNS = 400;
    private static final int CALLS = 512;
    private static final int KINDS = 37;
    private static final int[] LIKELY = {2, 3, 5, 7, 13, 46, 53, 60};
    private static final int IS_LAID = 12;
    private static final int CLEAR = 31;
    private static final int TYPE = 32;
    private static final int FAULT = 33;
    private static final int PLAY = 36;

    private final Random random;
    private final PellMills mills = new PellMills();
    private final Model model = new Model();
    // What is still to be typed, and the calls still to be made once it is.
    private String script = "";
    private int asked = KINDS;

    private ModelTest(long seed) {
        random = new Random(seed);
    }

    public static void main(String[] args) {
        Check check = new Check();
        for (int run = 0; run < RUNS; run++) {
            new ModelTest(run).play(check, run);
        }
        check.end();
    }

    private void play(Check check, int run) {
        for (int call = 0; call < CALLS; call++) {
            int kind = kind();
            int number = number();
            int place = place();
            int sign = kind == TYPE ? sign() : 0;
            long bound = bound();
            int chosen = kind;
            Object got = Check.outcome(() -> real(chosen, number, place, sign, bound));
            Object want = Check.outcome(() -> model.answer(chosen, number, place, sign, bound));
            check.due("run " + run + ", call " + call + " of kind " + kind + " (" + number + ", " + place + ", " + bound + ")", got, want);
        }
    }

    private int kind() {
        if (random.nextInt(12) != 0 && !script.isEmpty()) {
            return TYPE;
        }
        if (script.isEmpty() && asked < KINDS) {
            return asked++;
        }
        int kind = random.nextInt(KINDS + 16);
        if (kind == CLEAR) {
            script = newScript();
            asked = FAULT;
        }
        return kind < KINDS ? kind : kind < KINDS + 6 ? 0 : 2;
    }

    /** Mostly orders that can be done on the stones that are laid. */
    private String newScript() {
        StringBuilder text = new StringBuilder();
        for (int orders = random.nextInt(14); orders > 0; orders--) {
            char order = "lmmmbt".charAt(random.nextInt(6));
            int number = LIKELY[random.nextInt(LIKELY.length)];
            boolean laid = model.answer(IS_LAID, number, 0, 0, 0).equals(1L);
            if (laid == (order != 'l') || random.nextInt(8) == 0) {
                text.append(order).append(random.nextInt(4) == 0 && number < 10 ? "0" : "").append(number).append(';');
            }
        }
        if (random.nextInt(3) == 0 && text.length() > 0) {
            int at = random.nextInt(text.length());
            text.replace(at, at + random.nextInt(2), random.nextInt(2) == 0 ? "" : "" + "ltmb0123456789; x".charAt(random.nextInt(17)));
        }
        return text.toString();
    }

    private int number() {
        int kind = random.nextInt(10);
        if (kind < 6) {
            return LIKELY[random.nextInt(LIKELY.length)];
        }
        return kind < 9 ? random.nextInt(64) : random.nextInt();
    }

    private int place() {
        return random.nextInt(12) == 0 ? random.nextInt() : random.nextInt(110) - 2;
    }

    private int sign() {
        if (script.isEmpty()) {
            return random.nextInt(200) - 20;
        }
        char sign = script.charAt(0);
        script = script.substring(1);
        return sign;
    }

    private long bound() {
        long bound = 1;
        for (int digits = random.nextInt(17); digits > 0; digits--) {
            bound = bound * 10 + random.nextInt(10);
        }
        return random.nextInt(20) == 0 ? -bound : bound;
    }

    private Object real(int kind, int number, int place, int sign, long bound) {
        switch (kind) {
            case 0: return (long) mills.lay(number);
            case 1: return (long) mills.take(number);
            case 2: return mills.mill(number);
            case 3: return mills.millBack(number);
            case 4: return (long) mills.whyNot(number);
            case 5: return (long) mills.periodOf(number);
            case 6: return (long) mills.termAt(number, place);
            case 7: return (long) mills.unitX(number);
            case 8: return (long) mills.unitY(number);
            case 9: return (long) mills.leastY(number);
            case 10: return (long) mills.leastYBySearch(number);
            case 11: return (long) mills.stones();
            case IS_LAID: return mills.isLaid(number) ? 1L : 0L;
            case 13: return (long) mills.stoneFrom(number);
            case 14: return (long) mills.powerOf(number);
            case 15: return mills.xOf(number);
            case 16: return mills.yOf(number);
            case 17: return (long) mills.signOf(number);
            case 18: return (long) mills.signByRemainders(number);
            case 19: return mills.nearRoot(number);
            case 20: return (long) mills.solutions();
            case 21: return mills.xAt(place);
            case 22: return mills.xAtBySet(place);
            case 23: return (long) mills.stoneAt(place);
            case 24: return (long) mills.solutionsUpTo(bound);
            case 25: return (long) mills.milled();
            case 26: return (long) mills.minusStones();
            case 27: return (long) mills.keep();
            case 28: return (long) mills.goBack();
            case 29: return (long) mills.states();
            case 30: return (long) mills.undo();
            case CLEAR: return (long) mills.clearText();
            case TYPE: return (long) mills.type(sign);
            case FAULT: return (long) mills.faultPosition();
            case 34: return (long) mills.faultReason();
            case 35: return (long) mills.faultCause();
            case PLAY: return (long) mills.play();
            default: throw new AssertionError(kind);
        }
    }
}
