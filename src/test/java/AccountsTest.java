/** Promises 27 to 32: accounts, the snapshot, the history. */
public final class AccountsTest {
    public static void main(String[] args) {
        Check check = new Check();
        run(check);
        check.end();
    }

    static void run(Check check) {
        promise27(check);
        promise28(check);
        promise29(check);
        promise30(check);
        promise31(check);
        promise32(check);
    }

    private static void promise27(Check check) {
        check.heading("Promise 27");
        check.sentence("Returns how often a stone was milled.");
        PellMills mills = new PellMills();
        check.due("milled() of a new object", mills.milled(), 0);
        mills.lay(2);
        check.due("milled() behind lay", mills.milled(), 0);
        mills.mill(2);
        check.due("milled() behind mill", mills.milled(), 1);
        mills.lay(46);
        mills.mill(46);
        check.due("milled() behind mill of another stone", mills.milled(), 2);
        mills.take(46);
        check.due("milled() behind take", mills.milled(), 2);
        check.sentence("Returns how often so far, not back.");
        mills.millBack(2);
        check.due("milled() behind millBack", mills.milled(), 2);
        Check.outcome(() -> mills.millBack(2));
        Check.outcome(() -> mills.mill(46));
        Check.outcome(() -> mills.mill(61));
        check.due("milled() behind refusals", mills.milled(), 2);
        mills.mill(2);
        check.due("milled() behind mill to a power once more", mills.milled(), 3);
        mills.undo();
        check.due("milled() behind undo of mill", mills.milled(), 2);
        mills.keep();
        Scene.type(mills, "m2;m2;b2;");
        mills.play();
        check.due("milled() behind play", mills.milled(), 4);
        mills.goBack();
        check.due("milled() behind goBack", mills.milled(), 2);
        PellMills greatest = Scene.at(46, 3);
        check.dueThrow("mill(46) above the greatest power", Check.STATE, () -> greatest.mill(46));
        check.due("milled() behind a mill that is refused", greatest.milled(), 3);
    }

    private static void promise28(Check check) {
        check.heading("Promise 28");
        check.sentence("Returns how many stones stand at a power with the sign -1.");
        PellMills mills = Scene.milled(2, 5, 7, 3);
        check.due("minusStones() at the powers 0", mills.minusStones(), 0);
        mills.mill(2);
        check.due("minusStones(), 2 at 1", mills.minusStones(), 1);
        mills.mill(7);
        check.due("minusStones(), 7 at 1 too, of which no power has it", mills.minusStones(), 1);
        mills.mill(5);
        check.due("minusStones(), 5 at 1 too", mills.minusStones(), 2);
        mills.mill(2);
        check.due("minusStones(), 2 at 2", mills.minusStones(), 1);
        mills.mill(2);
        check.due("minusStones(), 2 at 3", mills.minusStones(), 2);
        mills.millBack(2);
        check.due("minusStones(), 2 back at 2", mills.minusStones(), 1);
        mills.take(5);
        check.due("minusStones() without 5", mills.minusStones(), 0);
        check.sentence("Returns how many.");
        PellMills eight = new PellMills();
        check.due("minusStones() of none", eight.minusStones(), 0);
        int[] numbers = {2, 58, 5, 53, 10, 50, 13, 41};
        for (int i = 0; i < numbers.length; i++) {
            eight.lay(numbers[i]);
            eight.mill(numbers[i]);
            check.due("minusStones() behind mill(" + numbers[i] + ")", eight.minusStones(), i + 1);
        }
    }

    private static void promise29(Check check) {
        check.heading("Promise 29");
        check.sentence("Takes a snapshot, in place of the one before: of everything but the text, the history and itself.");
        PellMills mills = Scene.milled(2, 3, 2, 2);
        String before = Look.atStones(mills);
        mills.keep();
        check.due("states() behind keep", mills.states(), 4);
        check.due("what is there behind keep", Look.atStones(mills), before);
        mills.mill(2);
        mills.take(3);
        mills.lay(5);
        Scene.type(mills, "l5;");
        mills.goBack();
        check.due("what is there behind goBack", Look.atStones(mills), before);
        check.due("clearText(), typed behind keep", mills.clearText(), 3);
        mills.take(2);
        mills.keep();
        mills.lay(7);
        check.due("goBack() to the later one", mills.goBack(), 1);
        check.due("isLaid(2) of the later one", mills.isLaid(2), false);
        mills.undo();
        mills.undo();
        mills.undo();
        check.due("states() behind undo, which the snapshot has not", mills.states(), 1);
        check.due("goBack() behind undo", mills.goBack(), 1);
        check.due("states() behind goBack", mills.states(), 2);
        check.sentence("Returns how many stones are laid.");
        check.due("keep() of none", new PellMills().keep(), 0);
        check.due("keep() of one", Scene.milled(2, 2).keep(), 1);
        check.due("keep() of three", Scene.BUSY.made().keep(), 3);
        check.due("keep() of eight", Scene.FULL.made().keep(), 8);
    }

    private static void promise30(Check check) {
        check.heading("Promise 30");
        check.sentence("Goes back to the snapshot, which stays.");
        PellMills mills = Scene.milled(2, 2);
        mills.keep();
        for (int times = 0; times < 6; times++) {
            mills.mill(2);
            mills.lay(3);
            mills.goBack();
            check.due("stones() behind goBack", mills.stones(), 1);
            check.due("xOf(2) behind goBack", mills.xOf(2), 1);
            check.due("powerOf(2) behind goBack", mills.powerOf(2), 1);
            check.due("milled() behind goBack", mills.milled(), 1);
        }
        mills.goBack();
        check.due("states() behind goBack to where it stands", mills.states(), 4);
        mills.undo();
        mills.undo();
        check.due("stones() behind undo of goBack", mills.stones(), 2);
        check.due("powerOf(2) behind undo of goBack", mills.powerOf(2), 2);
        check.sentence("Returns how many stones are laid then.");
        check.due("goBack() to one", mills.goBack(), 1);
        PellMills empty = new PellMills();
        empty.keep();
        empty.lay(2);
        check.due("goBack() to none", empty.goBack(), 0);
        check.due("isLaid(2) then", empty.isLaid(2), false);
        PellMills full = Scene.FULL.made();
        full.keep();
        full.take(2);
        full.take(60);
        check.due("goBack() to eight", full.goBack(), 8);
        check.dueThrow("lay(11) then, a ninth one", Check.STATE, () -> full.lay(11));
        check.sentence("Throws IllegalStateException if there is none");
        check.refused("goBack()", Check.STATE, Scene.FRESH, PellMills::goBack);
        Scene stones = new Scene("an object with stones and no snapshot", () -> Scene.milled(2, 3, 2));
        check.refused("goBack()", Check.STATE, stones, PellMills::goBack);
        PellMills kept = stones.made();
        kept.keep();
        check.due("goBack() behind keep", kept.goBack(), 2);
    }

    private static void promise31(Check check) {
        check.heading("Promise 31");
        check.sentence("Returns how many states the history has.");
        PellMills mills = new PellMills();
        check.due("states() of a new object", mills.states(), 0);
        mills.lay(2);
        check.due("states() behind a change", mills.states(), 1);
        mills.undo();
        check.due("states() behind undo", mills.states(), 0);
        check.sentence("Returns how many, 0 to 4.");
        for (int changes = 1; changes <= 7; changes++) {
            mills.play();
            check.due("states() behind " + changes + " changes", mills.states(), changes < 4 ? changes : 4);
        }
        mills.undo();
        check.due("states() behind undo", mills.states(), 3);
        mills.lay(2);
        check.due("states() behind a fourth one again", mills.states(), 4);
        Check.outcome(() -> mills.lay(2));
        Check.outcome(() -> mills.take(61));
        check.due("states() behind refusals", mills.states(), 4);
    }

    private static void promise32(Check check) {
        check.heading("Promise 32");
        check.sentence("Restores the latest state of the history, which is removed from it.");
        PellMills mills = Scene.milled(2, 2, 2);
        mills.keep();
        Scene.type(mills, "l5;t5;");
        mills.undo();
        check.due("powerOf(2) behind undo", mills.powerOf(2), 1);
        mills.undo();
        check.due("powerOf(2) behind undo", mills.powerOf(2), 0);
        mills.undo();
        check.due("isLaid(2) behind undo of lay", mills.isLaid(2), false);
        check.due("stones() behind undo of lay", mills.stones(), 0);
        check.due("play(), the text as it is", mills.play(), 2);
        check.due("goBack(), the snapshot as it is", mills.goBack(), 1);
        check.due("powerOf(2), as in the snapshot", mills.powerOf(2), 2);
        mills = Scene.milled(2, 3);
        mills.take(2);
        mills.undo();
        check.due("isLaid(2) behind undo of take", mills.isLaid(2), true);
        mills.lay(5);
        mills.undo();
        check.due("isLaid(5) behind undo of another change", mills.isLaid(5), false);
        mills.undo();
        check.due("isLaid(3) behind undo of the one before", mills.isLaid(3), false);
        check.sentence("Returns the number of states that are left.");
        for (int changes = 1; changes <= 6; changes++) {
            PellMills changed = new PellMills();
            for (int made = 0; made < changes; made++) {
                changed.play();
            }
            for (int left = Math.min(changes, 4) - 1; left >= 0; left--) {
                check.due("undo() behind " + changes + " changes", changed.undo(), left);
            }
        }
        check.sentence("Throws IllegalStateException if the history is empty");
        check.refused("undo()", Check.STATE, Scene.FRESH, PellMills::undo);
        check.refused("undo()", Check.STATE, new Scene("an object of which all is undone", AccountsTest::undone), PellMills::undo);
        PellMills again = undone();
        again.lay(3);
        check.due("undo() behind a change again", again.undo(), 0);
    }

    /** The stone 2 is laid ahead of all states that the history had; a snapshot and a text are there. */
    private static PellMills undone() {
        PellMills mills = Scene.milled(2, 2, 2, 2, 2);
        mills.keep();
        Scene.type(mills, "m2;");
        for (int undone = 0; undone < 4; undone++) {
            mills.undo();
        }
        return mills;
    }
}
