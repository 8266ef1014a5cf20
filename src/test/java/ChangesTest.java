import java.math.BigInteger;

/** Promises 1 to 5, and what the document says of stones that are laid and milled, of changes and of exceptions. */
public final class ChangesTest {
    private static final BigInteger GREATEST = BigInteger.TEN.pow(15);
    // The powers of 2, whose x grows slowest.
    private static final int MOST_POWERS = 39;

    public static void main(String[] args) {
        Check check = new Check();
        run(check);
        check.end();
    }

    static void run(Check check) {
        promise1(check);
        promise2(check);
        promise3(check);
        promise4(check);
        promise5(check);
        layingOfStones(check);
        millingOfStones(check);
        whatIsAChange(check);
        historyOfStates(check);
        exceptions(check);
        manyCalls(check);
    }

    private static void promise1(Check check) {
        check.heading("Promise 1");
        check.sentence("Begins without stones and a snapshot.");
        PellMills mills = new PellMills();
        check.due("stones()", mills.stones(), 0);
        check.due("solutions()", mills.solutions(), 0);
        check.due("milled()", mills.milled(), 0);
        check.due("minusStones()", mills.minusStones(), 0);
        check.due("states()", mills.states(), 0);
        for (int number = 2; number <= 60; number++) {
            check.due("isLaid(" + number + ")", mills.isLaid(number), false);
        }
        check.refused("goBack()", Check.STATE, Scene.FRESH, PellMills::goBack);
        check.due("keep(), the first snapshot", mills.keep(), 0);
        check.due("goBack() behind it", mills.goBack(), 0);
        check.due("lay(2), the first stone", mills.lay(2), 1);
        check.due("stones() of another object meanwhile", new PellMills().stones(), 0);
    }

    private static void promise2(Check check) {
        check.heading("Promise 2");
        check.sentence("Lays a stone.");
        PellMills mills = new PellMills();
        mills.lay(2);
        check.due("isLaid(2)", mills.isLaid(2), true);
        check.due("isLaid(3)", mills.isLaid(3), false);
        check.sentence("number: 2 to 60");
        check.numbersFrom2To60(PellMills::lay);
        check.due("lay(60)", mills.lay(60), 2);
        check.due("isLaid(60)", mills.isLaid(60), true);
        check.sentence("Returns how many stones are laid then.");
        int[] more = {59, 3, 5, 6, 7, 8};
        for (int i = 0; i < more.length; i++) {
            check.due("lay(" + more[i] + ")", mills.lay(more[i]), i + 3);
        }
        mills.take(3);
        mills.take(60);
        check.due("lay(3) behind two taken away", mills.lay(3), 7);
        check.sentence("Throws IllegalArgumentException if number is out of range");
        check.numbersOutOfRange(PellMills::lay);
        check.sentence("Throws IllegalStateException for the reasons of whyNot()");
        for (int square : Scene.SQUARES) {
            check.refused("lay(" + square + ")", Check.STATE, Scene.FRESH, at -> at.lay(square));
            check.refused("lay(" + square + ")", Check.STATE, Scene.BUSY, at -> at.lay(square));
            check.due("lay() below " + square, new PellMills().lay(square - 1), 1);
            check.due("lay() above " + square, new PellMills().lay(square + 1), 1);
        }
        check.refused("lay(13), which is laid at the power 0", Check.STATE, Scene.BUSY, at -> at.lay(13));
        check.refused("lay(2), which is laid at the power 3", Check.STATE, Scene.BUSY, at -> at.lay(2));
        check.refused("lay(11), a ninth stone", Check.STATE, Scene.FULL, at -> at.lay(11));
        check.refused("lay(10) of eight stones", Check.STATE, Scene.FULL, at -> at.lay(10));
        check.refused("lay(49) beside eight stones", Check.STATE, Scene.FULL, at -> at.lay(49));
        mills = Scene.FULL.made();
        mills.take(8);
        check.due("lay(11), an eighth stone", mills.lay(11), 8);
        for (int number = 2; number <= 60; number++) {
            int tried = number;
            for (Scene scene : Scene.ALL) {
                boolean possible = scene.made().whyNot(number) == 0;
                Object outcome = Check.outcome(() -> scene.made().lay(tried));
                check.due("lay(" + number + ") in " + scene.name() + " is refused", outcome.equals("throws." + Check.STATE), !possible);
            }
        }
    }

    private static void promise3(Check check) {
        check.heading("Promise 3");
        check.sentence("Takes a stone away.");
        PellMills mills = Scene.milled(2, 3, 5, 3);
        mills.take(3);
        check.due("isLaid(3)", mills.isLaid(3), false);
        check.due("isLaid(2)", mills.isLaid(2), true);
        check.due("isLaid(5)", mills.isLaid(5), true);
        check.due("stones()", mills.stones(), 2);
        mills.lay(3);
        check.due("powerOf(3), laid anew", mills.powerOf(3), 0);
        check.sentence("number: 2 to 60");
        check.numbersFrom2To60(PellMills::take);
        check.due("take(60) of eight stones", Scene.FULL.made().take(60), 1);
        check.due("take(2) of eight stones", Scene.FULL.made().take(2), 2);
        check.sentence("Returns at which power it stood.");
        for (int power : new int[] {0, 1, 2, 38, 39}) {
            check.due("take(2) at the power " + power, Scene.at(2, power).take(2), power);
        }
        check.sentence("Throws IllegalArgumentException if number is out of range");
        check.numbersOutOfRange(PellMills::take);
        check.sentence("Throws IllegalStateException if it is not laid");
        check.refused("take(2)", Check.STATE, Scene.FRESH, at -> at.take(2));
        check.refused("take(3), which was taken", Check.STATE, Scene.BUSY, at -> at.take(3));
        check.refused("take(6) beside 7", Check.STATE, Scene.BUSY, at -> at.take(6));
        check.refused("take(8) beside 7", Check.STATE, Scene.BUSY, at -> at.take(8));
        check.refused("take(4)", Check.STATE, Scene.FULL, at -> at.take(4));
        check.due("take(7)", Scene.BUSY.made().take(7), 1);
    }

    private static void promise4(Check check) {
        check.heading("Promise 4");
        check.sentence("Mills a stone.");
        PellMills mills = Scene.milled(2, 13);
        mills.mill(2);
        check.due("powerOf(2)", mills.powerOf(2), 1);
        check.due("powerOf(13) meanwhile", mills.powerOf(13), 0);
        check.sentence("number: 2 to 60");
        check.numbersFrom2To60(PellMills::mill);
        check.due("mill(60) of eight stones", Scene.FULL.made().mill(60), 1921);
        check.due("mill(2) of eight stones", Scene.FULL.made().mill(2), 7);
        check.sentence("Returns its x then.");
        for (long x : new long[] {3, 7, 17, 41, 99}) {
            check.due("mill(2)", mills.mill(2), x);
        }
        check.due("mill(13)", mills.mill(13), 18);
        check.due("mill(13)", mills.mill(13), 649);
        check.sentence("Throws IllegalArgumentException if number is out of range");
        check.numbersOutOfRange(PellMills::mill);
        check.sentence("Throws IllegalStateException if it is not laid, or it is refused");
        check.refused("mill(2)", Check.STATE, Scene.FRESH, at -> at.mill(2));
        check.refused("mill(3), which was taken", Check.STATE, Scene.BUSY, at -> at.mill(3));
        check.refused("mill(4)", Check.STATE, Scene.BUSY, at -> at.mill(4));
        check.refused("mill(12) beside 13", Check.STATE, Scene.BUSY, at -> at.mill(12));
        Scene greatest = new Scene("46 at its greatest power", () -> Scene.milled(46, 46, 46, 46));
        check.refused("mill(46)", Check.STATE, greatest, at -> at.mill(46));
        check.due("mill(46) one power below", Scene.milled(46, 46, 46).mill(46), 57643991108495L);
    }

    private static void promise5(Check check) {
        check.heading("Promise 5");
        check.sentence("Mills a stone back.");
        PellMills mills = Scene.milled(2, 13, 2, 2, 13);
        mills.millBack(2);
        check.due("powerOf(2)", mills.powerOf(2), 1);
        check.due("yOf(2)", mills.yOf(2), 1);
        check.due("powerOf(13) meanwhile", mills.powerOf(13), 1);
        check.sentence("number: 2 to 60");
        check.numbersFrom2To60(PellMills::millBack);
        check.due("millBack(60) of eight stones", Scene.FULL.made().millBack(60), 1);
        check.due("millBack(2) of eight stones", Scene.FULL.made().millBack(2), 1);
        check.sentence("Returns its x then.");
        mills = Scene.at(2, 39);
        check.due("millBack(2) from the greatest power", mills.millBack(2), 175568277047523L);
        mills = Scene.at(2, 6);
        for (long x : new long[] {41, 17, 7, 3, 1, 1}) {
            check.due("millBack(2)", mills.millBack(2), x);
        }
        check.sentence("Throws IllegalArgumentException if number is out of range");
        check.numbersOutOfRange(PellMills::millBack);
        check.sentence("Throws IllegalStateException if it is not laid, or it is refused");
        check.refused("millBack(2)", Check.STATE, Scene.FRESH, at -> at.millBack(2));
        check.refused("millBack(3), which was taken", Check.STATE, Scene.BUSY, at -> at.millBack(3));
        check.refused("millBack(4)", Check.STATE, Scene.BUSY, at -> at.millBack(4));
        check.refused("millBack(13) at the power 0", Check.STATE, Scene.BUSY, at -> at.millBack(13));
        check.due("millBack(7) at the power 1", Scene.BUSY.made().millBack(7), 1);
    }

    private static void layingOfStones(Check check) {
        check.heading("Stones");
        check.sentence("A stone with a number d can be laid; it stands at the power 0 then.");
        PellMills mills = new PellMills();
        for (int number = 2; number <= 60; number++) {
            if (!Scene.isSquare(number)) {
                mills.lay(number);
                check.due("powerOf(" + number + ")", mills.powerOf(number), 0);
                check.due("xOf(" + number + ")", mills.xOf(number), 1);
                check.due("yOf(" + number + ")", mills.yOf(number), 0);
                mills.mill(number);
                mills.take(number);
            }
        }
        check.sentence("It is not laid for the first of these reasons that is so: "
            + "1 d is a square; 2 it is laid already; 3 there are 8 stones.");
        check.due("whyNot(4) beside eight stones: it is a square and one too many", Scene.FULL.made().whyNot(4), 1);
        check.due("whyNot(2) of eight stones: it is laid and one too many", Scene.FULL.made().whyNot(2), 2);
        check.due("whyNot(4) beside three stones", Scene.BUSY.made().whyNot(4), 1);
        check.due("whyNot(2) of three stones", Scene.BUSY.made().whyNot(2), 2);
        check.due("whyNot(3) beside three stones", Scene.BUSY.made().whyNot(3), 0);
        check.due("whyNot(11), a ninth stone", Scene.FULL.made().whyNot(11), 3);
        mills = Scene.FULL.made();
        mills.take(60);
        check.due("whyNot(11), an eighth stone", mills.whyNot(11), 0);
    }

    private static void millingOfStones(Check check) {
        check.sentence("To mill it means to come to the next power; it is refused, if its x would be above 1000000000000000.");
        for (int number = 2; number <= 60; number++) {
            if (!Scene.isSquare(number)) {
                millToTheEnd(check, number);
            }
        }
        check.sentence("To mill it back means to come to the power before; it is refused at the power 0.");
        for (int number : new int[] {2, 46, 53, 60}) {
            check.refused("millBack(" + number + ")", Check.STATE, scene(number, 0), at -> at.millBack(number));
            PellMills mills = Scene.at(number, 2);
            mills.millBack(number);
            check.due("xOf(" + number + ") milled back from 2", mills.xOf(number), mills.unitX(number));
            check.due("yOf(" + number + ") milled back from 2", mills.yOf(number), mills.unitY(number));
            check.due("millBack(" + number + ") from 1", mills.millBack(number), 1);
            check.due("yOf(" + number + ") milled back from 1", mills.yOf(number), 0);
            check.dueThrow("millBack(" + number + ") then", Check.STATE, () -> mills.millBack(number));
            check.due("mill(" + number + ") again", mills.mill(number), mills.unitX(number));
        }
    }

    private static void millToTheEnd(Check check, int number) {
        PellMills mills = Scene.milled(number);
        BigInteger unitX = BigInteger.valueOf(mills.unitX(number));
        BigInteger ofY = BigInteger.valueOf((long) number * mills.unitY(number));
        int power = 0;
        BigInteger next = unitX;
        while (next.compareTo(GREATEST) <= 0 && power < MOST_POWERS) {
            power++;
            check.due("mill(" + number + ") to " + power, mills.mill(number), next.longValueExact());
            next = next.multiply(unitX).add(BigInteger.valueOf(mills.yOf(number)).multiply(ofY));
        }
        check.due("powerOf(" + number + ") at the end", mills.powerOf(number), power);
        check.refused("mill(" + number + ") above 1000000000000000", Check.STATE, scene(number, power), at -> at.mill(number));
        check.dueThrow("mill(" + number + ") beyond", Check.STATE, () -> mills.mill(number));
        check.dueThrow("mill(" + number + ") beyond, again", Check.STATE, () -> mills.mill(number));
        long x = mills.xOf(number);
        mills.millBack(number);
        check.due("mill(" + number + ") from one power below", mills.mill(number), x);
    }

    private static Scene scene(int number, int power) {
        return new Scene(number + " at the power " + power, () -> Scene.at(number, power));
    }

    private static void whatIsAChange(Check check) {
        check.heading("Changes and exceptions");
        check.sentence("The changes are the calls of lay, take, mill, millBack, goBack and play that throw nothing.");
        PellMills mills = new PellMills();
        mills.lay(2);
        check.due("states() behind lay", mills.states(), 1);
        mills.mill(2);
        check.due("states() behind mill", mills.states(), 2);
        mills.millBack(2);
        check.due("states() behind millBack", mills.states(), 3);
        mills.take(2);
        check.due("states() behind take", mills.states(), 4);
        mills = new PellMills();
        mills.keep();
        check.due("states() behind keep", mills.states(), 0);
        mills.goBack();
        check.due("states() behind goBack", mills.states(), 1);
        mills.play();
        check.due("states() behind play", mills.states(), 2);
        mills.undo();
        check.due("states() behind undo", mills.states(), 1);
        mills.type(65);
        mills.clearText();
        check.due("states() behind type and clearText", mills.states(), 1);
        check.dueThrow("take(2)", Check.STATE, () -> Scene.FRESH.made().take(2));
        for (Scene scene : Scene.ALL) {
            questionsChangeNothing(check, scene);
        }
    }

    private static void questionsChangeNothing(Check check, Scene scene) {
        check.changesNothing("whyNot(3)", scene, at -> at.whyNot(3));
        check.changesNothing("periodOf(13)", scene, at -> at.periodOf(13));
        check.changesNothing("termAt(13, 99)", scene, at -> at.termAt(13, 99));
        check.changesNothing("unitX(13)", scene, at -> at.unitX(13));
        check.changesNothing("unitY(13)", scene, at -> at.unitY(13));
        check.changesNothing("leastY(13)", scene, at -> at.leastY(13));
        check.changesNothing("leastYBySearch(13)", scene, at -> at.leastYBySearch(13));
        check.changesNothing("stones()", scene, PellMills::stones);
        check.changesNothing("isLaid(2)", scene, at -> at.isLaid(2));
        check.changesNothing("solutions()", scene, PellMills::solutions);
        check.changesNothing("solutionsUpTo(100)", scene, at -> at.solutionsUpTo(100));
        check.changesNothing("milled()", scene, PellMills::milled);
        check.changesNothing("minusStones()", scene, PellMills::minusStones);
        check.changesNothing("states()", scene, PellMills::states);
        if (scene == Scene.FRESH) {
            return;
        }
        check.changesNothing("stoneFrom(3)", scene, at -> at.stoneFrom(3));
        check.changesNothing("powerOf(2)", scene, at -> at.powerOf(2));
        check.changesNothing("xOf(2)", scene, at -> at.xOf(2));
        check.changesNothing("yOf(2)", scene, at -> at.yOf(2));
        check.changesNothing("signOf(2)", scene, at -> at.signOf(2));
        check.changesNothing("signByRemainders(2)", scene, at -> at.signByRemainders(2));
        check.changesNothing("nearRoot(2)", scene, at -> at.nearRoot(2));
        check.changesNothing("xAt(5)", scene, at -> at.xAt(5));
        check.changesNothing("xAtBySet(5)", scene, at -> at.xAtBySet(5));
        check.changesNothing("stoneAt(5)", scene, at -> at.stoneAt(5));
        check.changesNothing("faultPosition()", scene, PellMills::faultPosition);
        check.changesNothing("faultReason()", scene, PellMills::faultReason);
        check.changesNothing("faultCause()", scene, PellMills::faultCause);
    }

    private static void historyOfStates(Check check) {
        check.sentence("A history of at most 4 states is kept: each change records everything before it but the text "
            + "and the snapshot, and if there are 5 states then, the oldest one is dropped.");
        int[] numbers = {2, 3, 5, 6, 7, 8};
        for (int changes = 0; changes <= numbers.length; changes++) {
            undoAll(check, numbers, changes);
        }
        PellMills mills = Scene.typed("l5;m5;");
        mills.lay(2);
        Scene.type(mills, "m5;");
        mills.keep();
        mills.undo();
        check.due("goBack(), the snapshot of a state that was undone", mills.goBack(), 1);
        check.due("isLaid(2), as in the snapshot", mills.isLaid(2), true);
        check.due("clearText(), as it was typed meanwhile", mills.clearText(), 9);
        mills = Scene.milled(2, 2, 2);
        mills.millBack(2);
        mills.undo();
        check.due("milled() behind undo of millBack", mills.milled(), 2);
        mills.undo();
        check.due("milled() behind undo of mill", mills.milled(), 1);
        check.due("powerOf(2) behind undo of mill", mills.powerOf(2), 1);
    }

    private static void undoAll(Check check, int[] numbers, int changes) {
        PellMills mills = new PellMills();
        for (int made = 0; made < changes; made++) {
            mills.lay(numbers[made]);
        }
        int states = Math.min(changes, 4);
        check.due("states() behind " + changes + " changes", mills.states(), states);
        for (int left = states - 1; left >= 0; left--) {
            check.due("undo() behind " + changes + " changes", mills.undo(), left);
            check.due("stones() with " + left + " states left", mills.stones(), changes - states + left);
        }
        check.dueThrow("undo() of one more", Check.STATE, mills::undo);
        check.due("stones() then", mills.stones(), changes - states);
        for (int i = 0; i < numbers.length; i++) {
            check.due("isLaid(" + numbers[i] + ") then", mills.isLaid(numbers[i]), i < changes - states);
        }
    }

    private static void exceptions(Check check) {
        check.sentence("If several exceptions apply to a call, the one that its throws clause names first is thrown.");
        check.refused("lay(61), out of range and a ninth stone", Check.ARGUMENT, Scene.FULL, at -> at.lay(61));
        check.refused("take(61), out of range and not laid", Check.ARGUMENT, Scene.BUSY, at -> at.take(61));
        check.refused("mill(1), out of range and not laid", Check.ARGUMENT, Scene.BUSY, at -> at.mill(1));
        check.refused("millBack(1), out of range and not laid", Check.ARGUMENT, Scene.BUSY, at -> at.millBack(1));
        check.refused("periodOf(64), out of range and a square", Check.ARGUMENT, Scene.BUSY, at -> at.periodOf(64));
        check.refused("termAt(4, 100), out of range, of a square", Check.ARGUMENT, Scene.BUSY, at -> at.termAt(4, 100));
        check.refused("termAt(4, -1), out of range, of a square", Check.ARGUMENT, Scene.BUSY, at -> at.termAt(4, -1));
        check.refused("termAt(1, 0), out of range and a square", Check.ARGUMENT, Scene.BUSY, at -> at.termAt(1, 0));
        check.refused("unitX(1), out of range and a square", Check.ARGUMENT, Scene.BUSY, at -> at.unitX(1));
        check.refused("unitY(0), out of range and a square", Check.ARGUMENT, Scene.BUSY, at -> at.unitY(0));
        check.refused("leastY(64), out of range and a square", Check.ARGUMENT, Scene.BUSY, at -> at.leastY(64));
        check.refused("leastYBySearch(1), out of range and a square", Check.ARGUMENT, Scene.BUSY, at -> at.leastYBySearch(1));
        check.refused("stoneFrom(61), out of range and above all", Check.ARGUMENT, Scene.BUSY, at -> at.stoneFrom(61));
        check.refused("powerOf(61), out of range and not laid", Check.ARGUMENT, Scene.BUSY, at -> at.powerOf(61));
        check.refused("xOf(61), out of range and not laid", Check.ARGUMENT, Scene.BUSY, at -> at.xOf(61));
        check.refused("yOf(61), out of range and not laid", Check.ARGUMENT, Scene.BUSY, at -> at.yOf(61));
        check.refused("signOf(1), out of range and not laid", Check.ARGUMENT, Scene.BUSY, at -> at.signOf(1));
        check.refused("signByRemainders(1), out of range and not laid", Check.ARGUMENT, Scene.BUSY, at -> at.signByRemainders(1));
        check.refused("nearRoot(1), out of range and not laid", Check.ARGUMENT, Scene.BUSY, at -> at.nearRoot(1));
        check.refused("xAt(-1) of none", Check.ARGUMENT, Scene.FRESH, at -> at.xAt(-1));
        check.refused("xAtBySet(-1) of none", Check.ARGUMENT, Scene.FRESH, at -> at.xAtBySet(-1));
        check.refused("stoneAt(-1) of none", Check.ARGUMENT, Scene.FRESH, at -> at.stoneAt(-1));
        check.refused("type(31), out of range and one too many", Check.ARGUMENT, Scene.FULL, at -> at.type(31));
        check.refused("type(127), out of range and one too many", Check.ARGUMENT, Scene.FULL, at -> at.type(127));
        check.sentence("A call that throws an exception changes nothing.");
        PellMills mills = Scene.FULL.made();
        Check.outcome(() -> mills.lay(11));
        Check.outcome(() -> mills.lay(2));
        Check.outcome(() -> mills.lay(4));
        Check.outcome(() -> mills.take(9));
        Check.outcome(() -> mills.mill(11));
        Check.outcome(() -> mills.millBack(3));
        Check.outcome(() -> mills.type(65));
        Check.outcome(() -> mills.type(127));
        Check.outcome(mills::play);
        check.due("what is there after refused calls of all kinds", Look.at(mills), Look.at(Scene.FULL.made()));
        PellMills other = new PellMills();
        Check.outcome(other::goBack);
        Check.outcome(other::undo);
        Check.outcome(other::faultPosition);
        Check.outcome(() -> other.xAt(0));
        check.due("what is there after refused calls on a new object", Look.at(other), Look.at(new PellMills()));
    }

    private static void manyCalls(Check check) {
        check.heading("What it is");
        check.sentence("An object is used for at most 512 calls after it has been made; what later calls answer is free.");
        PellMills mills = new PellMills();
        mills.lay(2);
        for (int call = 2; call <= 511; call += 2) {
            check.due("mill(2), the call " + call, mills.mill(2), 1);
            check.due("millBack(2), the call " + (call + 1), mills.millBack(2), 1);
        }
        check.due("milled(), the call 512", mills.milled(), 255);
    }
}
