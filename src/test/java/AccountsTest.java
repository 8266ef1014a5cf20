/** Promises 27 to 32: accounts, the snapshot, the history. */
public final class AccountsTest {
    public static void main(String[] args) {
        Check check = new Check();
        checkMilled(check);
        checkMinusStones(check);
        checkSnapshot(check);
        checkSnapshotAndHistory(check);
        checkHistory(check);
        checkWhatIsRecorded(check);
        checkRefusalsRecordNothing(check);
        check.end();
    }

    private static void checkMilled(Check check) {
        PellMills mills = Check.milled(2, 2, 2, 7, 7);
        check.due("promise 27: milled()", mills.milled(), 3);
        mills.millBack(2);
        check.due("promise 27: milled() after millBack", mills.milled(), 3);
        mills.take(2);
        check.due("promise 27: milled() after take", mills.milled(), 3);
        mills.undo();
        mills.undo();
        mills.undo();
        check.due("promise 27: milled() after undo of mill", mills.milled(), 2);
        check.dueThrow("promise 27: a mill that throws", Check.STATE, () -> mills.mill(3));
        check.due("promise 27: milled() after it", mills.milled(), 2);
    }

    private static void checkMinusStones(Check check) {
        PellMills mills = Check.milled(2, 5, 7, 3);
        check.due("promise 28: minusStones() at the powers 0", mills.minusStones(), 0);
        mills.mill(2);
        mills.mill(7);
        check.due("promise 28: minusStones() of 2 and 7 at 1", mills.minusStones(), 1);
        mills.mill(5);
        check.due("promise 28: minusStones() of 2, 7, 5 at 1", mills.minusStones(), 2);
        mills.mill(2);
        check.due("promise 28: minusStones() of 2 at 2", mills.minusStones(), 1);
        mills.take(5);
        check.due("promise 28: minusStones() without 5", mills.minusStones(), 0);
    }

    private static void checkSnapshot(Check check) {
        PellMills mills = Check.milled(2, 3, 2, 2);
        check.due("promise 29: keep()", mills.keep(), 2);
        check.due("promise 29: keep() is no change", mills.states(), 4);
        mills.mill(2);
        mills.take(3);
        mills.lay(5);
        mills.lay(6);
        check.due("promise 30: goBack()", mills.goBack(), 2);
        check.due("promise 30: powerOf(2)", mills.powerOf(2), 2);
        check.due("promise 30: isLaid(3)", mills.isLaid(3), true);
        check.due("promise 30: isLaid(5)", mills.isLaid(5), false);
        check.due("promise 30: milled()", mills.milled(), 2);
        mills.take(2);
        check.due("promise 30: goBack() again", mills.goBack(), 2);
        mills.take(2);
        check.due("promise 29: keep() in place of the one before", mills.keep(), 1);
        mills.lay(7);
        check.due("promise 30: goBack() to the later one", mills.goBack(), 1);
        check.due("promise 30: isLaid(2) of the later one", mills.isLaid(2), false);
        PellMills empty = new PellMills();
        check.due("promise 29: keep() of none", empty.keep(), 0);
        empty.lay(2);
        check.due("promise 30: goBack() to none", empty.goBack(), 0);
        check.due("promise 30: stones() of none", empty.stones(), 0);
    }

    private static void checkSnapshotAndHistory(Check check) {
        PellMills mills = Check.milled(2);
        mills.keep();
        mills.lay(3);
        mills.undo();
        mills.undo();
        check.due("promise 32: undo leaves the snapshot", mills.goBack(), 1);
        check.due("promise 30: goBack is a change", mills.states(), 1);
        check.due("promise 32: undo of goBack", mills.undo(), 0);
        check.due("promise 32: stones() before goBack", mills.stones(), 0);
        Check.type(mills, "l5");
        mills.goBack();
        check.due("promise 30: the text stays", mills.clearText(), 2);
        mills.lay(3);
        mills.keep();
        mills.undo();
        mills.undo();
        check.due("promise 29: the later snapshot stays too", mills.goBack(), 2);
    }

    private static void checkHistory(Check check) {
        PellMills mills = new PellMills();
        int[] numbers = {2, 3, 5, 6, 7, 8};
        for (int i = 0; i < numbers.length; i++) {
            mills.lay(numbers[i]);
            check.due("promise 31: states()", mills.states(), Math.min(i + 1, 4));
        }
        for (int left = 3; left >= 0; left--) {
            check.due("promise 32: undo()", mills.undo(), left);
            check.due("promise 32: stones() after undo", mills.stones(), left + 2);
        }
        check.dueThrow("promise 32: undo() of the dropped ones", Check.STATE, mills::undo);
        check.due("promise 32: stones() after the refusal", mills.stones(), 2);
        check.due("promise 32: isLaid(3)", mills.isLaid(3), true);
        mills.lay(60);
        check.due("promise 31: states() after a later change", mills.states(), 1);
        check.due("promise 32: undo() of it", mills.undo(), 0);
    }

    private static void checkWhatIsRecorded(Check check) {
        PellMills mills = Check.milled(2);
        mills.mill(2);
        mills.millBack(2);
        mills.take(2);
        check.due("promise 31: states() of lay, mill, millBack, take", mills.states(), 4);
        mills.undo();
        check.due("promise 32: powerOf(2) before take", mills.powerOf(2), 0);
        mills.undo();
        check.due("promise 32: powerOf(2) before millBack", mills.powerOf(2), 1);
        mills.undo();
        check.due("promise 32: powerOf(2) before mill", mills.powerOf(2), 0);
        Check.type(mills, "l5;");
        mills.undo();
        check.due("promise 32: stones() before lay", mills.stones(), 0);
        check.due("promise 32: the text stays", mills.clearText(), 3);
    }

    private static void checkRefusalsRecordNothing(Check check) {
        PellMills mills = Check.milled(2);
        check.dueThrow("lay(2)", Check.STATE, () -> mills.lay(2));
        check.dueThrow("take(3)", Check.STATE, () -> mills.take(3));
        check.dueThrow("mill(3)", Check.STATE, () -> mills.mill(3));
        check.dueThrow("millBack(2)", Check.STATE, () -> mills.millBack(2));
        check.dueThrow("goBack()", Check.STATE, mills::goBack);
        Check.type(mills, "x");
        check.dueThrow("play()", Check.STATE, mills::play);
        mills.keep();
        mills.clearText();
        check.due("promise 31: states() after refusals", mills.states(), 1);
    }
}
