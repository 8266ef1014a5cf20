/** All that can be told of an object by calls, as a text; the object is used up by it. */
final class Look {
    private final PellMills mills;
    private final StringBuilder told = new StringBuilder();

    private Look(PellMills mills) {
        this.mills = mills;
    }

    static String at(PellMills mills) {
        Look look = new Look(mills);
        look.tellAll();
        return look.told.toString();
    }

    /** The stones alone, and how often one was milled; the object is left as it is. */
    static String atStones(PellMills mills) {
        Look look = new Look(mills);
        look.tellStones();
        return look.told.toString();
    }

    private void tellAll() {
        tell("states", mills::states);
        tellStones();
        tellFault();
        for (int undone = 0; undone < 5; undone++) {
            tell("undo", mills::undo);
            tellStones();
        }
        tell("goBack", mills::goBack);
        tellStones();
        tellFault();
        tell("play", mills::play);
        tellStones();
        tell("clearText", mills::clearText);
    }

    private void tellStones() {
        tell("stones", mills::stones);
        tell("milled", mills::milled);
        tell("minusStones", mills::minusStones);
        tell("solutions", mills::solutions);
        for (int number = nextStone(2); number != 0; number = nextStone(number + 1)) {
            tellStone(number);
        }
        told.append('\n');
    }

    /** Asked for this way, since 59 calls of isLaid would soon be more calls than an object is used for. */
    private int nextStone(int number) {
        return Check.outcome(() -> mills.stoneFrom(number)) instanceof Integer stone ? stone : 0;
    }

    private void tellStone(int number) {
        tell("stone " + number + " at", () -> mills.powerOf(number));
        tell("x", () -> mills.xOf(number));
        tell("y", () -> mills.yOf(number));
    }

    private void tellFault() {
        tell("position", mills::faultPosition);
        tell("reason", mills::faultReason);
        tell("cause", mills::faultCause);
    }

    private void tell(String call, Check.Call made) {
        told.append(call).append(' ').append(Check.outcome(made)).append(", ");
    }
}
