/** Promises 1 to 6 and 13 to 21: stones that are laid, taken and milled. */
public final class StonesTest {
    private static final int[] WRONG_NUMBERS = {1, 61, 0, -7, Integer.MIN_VALUE, Integer.MAX_VALUE};

    public static void main(String[] args) {
        Check check = new Check();
        checkNewObject(check);
        checkLaying(check);
        checkTaking(check);
        checkMilling(check);
        checkGreatestPowers(check);
        checkStoneFrom(check);
        checkSigns(check);
        checkNearRoot(check);
        checkWrongNumbers(check);
        checkNotLaid(check);
        check.end();
    }

    private static void checkNewObject(Check check) {
        PellMills mills = new PellMills();
        check.due("promise 1: stones()", mills.stones(), 0);
        check.due("promise 1: solutions()", mills.solutions(), 0);
        check.due("promise 1: milled()", mills.milled(), 0);
        check.due("promise 1: minusStones()", mills.minusStones(), 0);
        check.due("promise 1: states()", mills.states(), 0);
        check.dueThrow("promise 1: goBack()", Check.STATE, mills::goBack);
        check.dueThrow("promise 1: undo()", Check.STATE, mills::undo);
        check.due("promise 1: clearText()", mills.clearText(), 0);
        for (int number = 2; number <= 60; number++) {
            check.due("promise 1: isLaid(" + number + ")", mills.isLaid(number), false);
        }
        PellMills other = new PellMills();
        other.lay(2);
        check.due("promise 1: stones() beside another object", mills.stones(), 0);
    }

    private static void checkLaying(Check check) {
        PellMills mills = new PellMills();
        check.due("promise 6: whyNot(2)", mills.whyNot(2), 0);
        check.due("promise 2: lay(2)", mills.lay(2), 1);
        check.due("promise 6: whyNot(2) laid", mills.whyNot(2), 2);
        check.due("promise 6: whyNot(3)", mills.whyNot(3), 0);
        check.due("promise 6: whyNot(4)", mills.whyNot(4), 1);
        check.dueThrow("promise 2: lay(2) again", Check.STATE, () -> mills.lay(2));
        check.dueThrow("promise 2: lay(4)", Check.STATE, () -> mills.lay(4));
        int[] more = {60, 3, 5, 6, 7, 8, 10};
        for (int i = 0; i < more.length; i++) {
            check.due("promise 2: lay(" + more[i] + ")", mills.lay(more[i]), i + 2);
        }
        check.due("promise 13: stones()", mills.stones(), 8);
        check.due("promise 14: isLaid(60)", mills.isLaid(60), true);
        check.due("promise 14: isLaid(59)", mills.isLaid(59), false);
        check.dueThrow("promise 2: a ninth stone", Check.STATE, () -> mills.lay(59));
        check.due("promise 6: whyNot(59) of a ninth", mills.whyNot(59), 3);
        check.due("promise 6: whyNot(60) of eight", mills.whyNot(60), 2);
        check.due("promise 6: whyNot(49) of eight", mills.whyNot(49), 1);
        check.due("promise 13: stones() after a refusal", mills.stones(), 8);
        check.due("promise 16: powerOf(60)", mills.powerOf(60), 0);
        check.due("promise 17: xOf(60)", mills.xOf(60), 1);
        check.due("promise 18: yOf(60)", mills.yOf(60), 0);
    }

    private static void checkTaking(Check check) {
        PellMills mills = Check.milled(2, 3, 3, 3, 3, 2);
        check.due("promise 3: take(3)", mills.take(3), 3);
        check.due("promise 13: stones() after take", mills.stones(), 1);
        check.due("promise 14: isLaid(3) after take", mills.isLaid(3), false);
        check.dueThrow("promise 3: take(3) again", Check.STATE, () -> mills.take(3));
        check.dueThrow("promise 3: take(4)", Check.STATE, () -> mills.take(4));
        check.due("promise 16: powerOf(2) after take(3)", mills.powerOf(2), 1);
        check.due("promise 2: lay(3) after take", mills.lay(3), 2);
        check.due("promise 16: powerOf(3) laid anew", mills.powerOf(3), 0);
        check.due("promise 3: take(3) at the power 0", mills.take(3), 0);
    }

    private static void checkMilling(Check check) {
        PellMills mills = Check.milled(2, 13);
        long[] xs = {1, 3, 7, 17, 41, 99};
        long[] ys = {1, 2, 5, 12, 29, 70};
        for (int i = 0; i < xs.length; i++) {
            check.due("promise 4: mill(2)", mills.mill(2), xs[i]);
            check.due("promise 16: powerOf(2)", mills.powerOf(2), i + 1);
            check.due("promise 17: xOf(2)", mills.xOf(2), xs[i]);
            check.due("promise 18: yOf(2)", mills.yOf(2), ys[i]);
        }
        check.due("promise 4: mill(13)", mills.mill(13), 18);
        check.due("promise 4: mill(13)", mills.mill(13), 649);
        check.due("promise 18: yOf(13)", mills.yOf(13), 180);
        for (int i = xs.length - 2; i >= 0; i--) {
            check.due("promise 5: millBack(2)", mills.millBack(2), xs[i]);
            check.due("promise 18: yOf(2) milled back", mills.yOf(2), ys[i]);
        }
        check.due("promise 5: millBack(2) to the power 0", mills.millBack(2), 1);
        check.due("promise 18: yOf(2) at the power 0", mills.yOf(2), 0);
        check.dueThrow("promise 5: millBack(2) at the power 0", Check.STATE, () -> mills.millBack(2));
        check.due("promise 16: powerOf(13) meanwhile", mills.powerOf(13), 2);
    }

    private static void checkGreatestPowers(Check check) {
        checkGreatest(check, 2, 39, 423859315570607L);
        checkGreatest(check, 46, 3, 57643991108495L);
        checkGreatest(check, 60, 8, 108942999582721L);
        checkGreatest(check, 53, 5, 3195165155182L);
    }

    private static void checkGreatest(Check check, int number, int greatest, long x) {
        PellMills mills = Check.milled(number);
        for (int power = 1; power <= greatest; power++) {
            mills.mill(number);
        }
        check.due("promise 17: greatest x of " + number, mills.xOf(number), x);
        check.dueThrow("promise 4: mill(" + number + ") above the greatest", Check.STATE, () -> mills.mill(number));
        check.due("promise 16: powerOf(" + number + ") after the refusal", mills.powerOf(number), greatest);
        check.due("promise 22: solutions() of " + number, mills.solutions(), greatest);
        check.due("promise 27: milled() of " + number, mills.milled(), greatest);
    }

    private static void checkStoneFrom(Check check) {
        PellMills mills = Check.milled(60, 7, 13);
        check.due("promise 15: stoneFrom(2)", mills.stoneFrom(2), 7);
        check.due("promise 15: stoneFrom(7)", mills.stoneFrom(7), 7);
        check.due("promise 15: stoneFrom(8)", mills.stoneFrom(8), 13);
        check.due("promise 15: stoneFrom(16)", mills.stoneFrom(16), 60);
        check.due("promise 15: stoneFrom(60)", mills.stoneFrom(60), 60);
        mills.take(60);
        check.dueThrow("promise 15: stoneFrom(14)", Check.NONE, () -> mills.stoneFrom(14));
    }

    private static void checkSigns(Check check) {
        PellMills mills = Check.milled(2, 7, 53);
        for (int number : new int[] {2, 7, 53}) {
            for (int power = 0; power <= 5; power++) {
                int due = number != 7 && power % 2 == 1 ? -1 : 1;
                check.due("promise 19: signOf(" + number + ") at " + power, mills.signOf(number), due);
                check.due("promise 20: signByRemainders(" + number + ") at " + power, mills.signByRemainders(number), due);
                mills.mill(power < 5 ? number : 2);
            }
        }
    }

    private static void checkNearRoot(Check check) {
        PellMills mills = Check.milled(2, 13, 13);
        check.due("promise 21: nearRoot(13)", mills.nearRoot(13), 18f / 5f);
        check.dueThrow("promise 21: nearRoot(2) at the power 0", Check.NONE, () -> mills.nearRoot(2));
        mills.mill(2);
        check.due("promise 21: nearRoot(2)", mills.nearRoot(2), 1f);
        for (int i = 0; i < 37; i++) {
            mills.mill(2);
        }
        check.due("promise 21: nearRoot(2) at 38", mills.nearRoot(2), (float) mills.xOf(2) / (float) mills.yOf(2));
        // Here the floats of x and y do not divide to the float of the exact quotient.
        PellMills rounded = Check.milled(53, 53, 53, 53, 53, 53);
        check.due("promise 21: nearRoot(53)", rounded.nearRoot(53), 7.2801103591918945f);
    }

    private static void checkWrongNumbers(Check check) {
        PellMills mills = Check.milled(2);
        for (int number : WRONG_NUMBERS) {
            check.dueThrow("promise 2: lay(" + number + ")", Check.ARGUMENT, () -> mills.lay(number));
            check.dueThrow("promise 3: take(" + number + ")", Check.ARGUMENT, () -> mills.take(number));
            check.dueThrow("promise 4: mill(" + number + ")", Check.ARGUMENT, () -> mills.mill(number));
            check.dueThrow("promise 5: millBack(" + number + ")", Check.ARGUMENT, () -> mills.millBack(number));
            check.dueThrow("promise 6: whyNot(" + number + ")", Check.ARGUMENT, () -> mills.whyNot(number));
            check.dueThrow("promise 14: isLaid(" + number + ")", Check.ARGUMENT, () -> mills.isLaid(number));
            check.dueThrow("promise 15: stoneFrom(" + number + ")", Check.ARGUMENT, () -> mills.stoneFrom(number));
            check.dueThrow("promise 16: powerOf(" + number + ")", Check.ARGUMENT, () -> mills.powerOf(number));
            check.dueThrow("promise 17: xOf(" + number + ")", Check.ARGUMENT, () -> mills.xOf(number));
            check.dueThrow("promise 18: yOf(" + number + ")", Check.ARGUMENT, () -> mills.yOf(number));
            check.dueThrow("promise 19: signOf(" + number + ")", Check.ARGUMENT, () -> mills.signOf(number));
            check.dueThrow("promise 20: signByRemainders(" + number + ")", Check.ARGUMENT, () -> mills.signByRemainders(number));
            check.dueThrow("promise 21: nearRoot(" + number + ")", Check.ARGUMENT, () -> mills.nearRoot(number));
        }
        check.due("wrong numbers change nothing", mills.states(), 1);
    }

    private static void checkNotLaid(Check check) {
        PellMills mills = Check.milled(2);
        for (int number : new int[] {3, 4, 60}) {
            check.dueThrow("promise 3: take(" + number + ")", Check.STATE, () -> mills.take(number));
            check.dueThrow("promise 4: mill(" + number + ")", Check.STATE, () -> mills.mill(number));
            check.dueThrow("promise 5: millBack(" + number + ")", Check.STATE, () -> mills.millBack(number));
            check.dueThrow("promise 15: stoneFrom(" + number + ")", Check.NONE, () -> mills.stoneFrom(number));
            check.dueThrow("promise 16: powerOf(" + number + ")", Check.NONE, () -> mills.powerOf(number));
            check.dueThrow("promise 17: xOf(" + number + ")", Check.NONE, () -> mills.xOf(number));
            check.dueThrow("promise 18: yOf(" + number + ")", Check.NONE, () -> mills.yOf(number));
            check.dueThrow("promise 19: signOf(" + number + ")", Check.NONE, () -> mills.signOf(number));
            check.dueThrow("promise 20: signByRemainders(" + number + ")", Check.NONE, () -> mills.signByRemainders(number));
            check.dueThrow("promise 21: nearRoot(" + number + ")", Check.NONE, () -> mills.nearRoot(number));
        }
        check.due("refusals change nothing", mills.states(), 1);
    }
}
