import java.math.BigInteger;

/** Promises 13 to 21: what is told of the stones that are laid. */
public final class StonesTest {
    private static final String OUT_OF_RANGE = "Throws IllegalArgumentException if number is out of range";

    public static void main(String[] args) {
        Check check = new Check();
        run(check);
        check.end();
    }

    static void run(Check check) {
        promise13(check);
        promise14(check);
        promise15(check);
        promise16(check);
        promise17(check);
        promise18(check);
        promise19(check);
        promise20(check);
        promise21(check);
    }

    private static void promise13(Check check) {
        check.heading("Promise 13");
        check.sentence("Returns how many stones are laid.");
        PellMills mills = new PellMills();
        check.due("stones() of none", mills.stones(), 0);
        int[] numbers = {2, 60, 3, 59, 5, 58, 6, 57};
        for (int i = 0; i < numbers.length; i++) {
            mills.lay(numbers[i]);
            mills.mill(numbers[i]);
            check.due("stones() behind lay(" + numbers[i] + ")", mills.stones(), i + 1);
        }
        check.sentence("Returns how many.");
        Check.outcome(() -> mills.lay(7));
        check.due("stones() behind a ninth one that was refused", mills.stones(), 8);
        for (int i = 0; i < numbers.length; i++) {
            mills.take(numbers[i]);
            check.due("stones() behind take(" + numbers[i] + ")", mills.stones(), numbers.length - 1 - i);
        }
        Check.outcome(() -> mills.take(2));
        check.due("stones() behind a take that was refused", mills.stones(), 0);
    }

    private static void promise14(Check check) {
        check.heading("Promise 14");
        check.sentence("Tells whether a stone is laid.");
        PellMills mills = new PellMills();
        check.due("isLaid(60) ahead of lay", mills.isLaid(60), false);
        mills.lay(60);
        check.due("isLaid(60) behind lay", mills.isLaid(60), true);
        mills.take(60);
        check.due("isLaid(60) behind take", mills.isLaid(60), false);
        check.sentence("number: 2 to 60");
        check.numbersFrom2To60(PellMills::isLaid);
        check.sentence("Returns whether it is.");
        for (int number = 2; number <= 60; number++) {
            check.due("isLaid(" + number + ") of 2, 7, 13", Scene.BUSY.made().isLaid(number), number == 2 || number == 7 || number == 13);
            check.due("isLaid(" + number + ") of none", new PellMills().isLaid(number), false);
        }
        check.sentence(OUT_OF_RANGE);
        check.numbersOutOfRange(PellMills::isLaid);
    }

    private static void promise15(Check check) {
        check.heading("Promise 15");
        check.sentence("Returns the stone with the least number that is not below a number.");
        PellMills mills = Scene.milled(60, 7, 13, 7);
        check.due("stoneFrom(6), below a stone", mills.stoneFrom(6), 7);
        check.due("stoneFrom(7), at a stone", mills.stoneFrom(7), 7);
        check.due("stoneFrom(8), above a stone", mills.stoneFrom(8), 13);
        check.due("stoneFrom(13)", mills.stoneFrom(13), 13);
        check.due("stoneFrom(14)", mills.stoneFrom(14), 60);
        check.sentence("number: 2 to 60");
        check.numbersFrom2To60(PellMills::stoneFrom);
        check.due("stoneFrom(2)", mills.stoneFrom(2), 7);
        check.due("stoneFrom(60)", mills.stoneFrom(60), 60);
        check.due("stoneFrom(2) of 2", Scene.milled(2).stoneFrom(2), 2);
        check.sentence("Returns its number.");
        for (int number = 2; number <= 60; number++) {
            check.due("stoneFrom(" + number + ")", mills.stoneFrom(number), number <= 7 ? 7 : number <= 13 ? 13 : 60);
        }
        check.sentence(OUT_OF_RANGE);
        check.numbersOutOfRange(PellMills::stoneFrom);
        check.sentence("Throws NoSuchElementException if there is none");
        for (int number : new int[] {2, 3, 4, 60}) {
            check.refused("stoneFrom(" + number + ") of none", Check.NONE, Scene.FRESH, at -> at.stoneFrom(number));
        }
        check.due("stoneFrom(13) of 13, the last one", Scene.BUSY.made().stoneFrom(13), 13);
        check.due("stoneFrom(12) of 13, the last one", Scene.BUSY.made().stoneFrom(12), 13);
        check.refused("stoneFrom(14) above the last one", Check.NONE, Scene.BUSY, at -> at.stoneFrom(14));
        check.refused("stoneFrom(60) above the last one", Check.NONE, Scene.BUSY, at -> at.stoneFrom(60));
        mills.take(60);
        check.dueThrow("stoneFrom(14) behind take(60)", Check.NONE, () -> mills.stoneFrom(14));
    }

    private static void promise16(Check check) {
        check.heading("Promise 16");
        check.sentence("Returns at which power a stone stands.");
        PellMills mills = Scene.milled(2, 7, 7);
        check.due("powerOf(2), never milled", mills.powerOf(2), 0);
        check.due("powerOf(7), milled once", mills.powerOf(7), 1);
        check.sentence("Returns the power.");
        for (int power : new int[] {0, 1, 2, 38, 39}) {
            check.due("powerOf(2), milled " + power + " times", Scene.at(2, power).powerOf(2), power);
        }
        mills = Scene.at(2, 39);
        mills.millBack(2);
        check.due("powerOf(2), milled back from 39", mills.powerOf(2), 38);
        numbersOfStones(check, PellMills::powerOf);
        check.sentence("Throws NoSuchElementException if it is not laid");
        notLaid(check, PellMills::powerOf);
        check.due("powerOf(13), laid at the power 0", Scene.BUSY.made().powerOf(13), 0);
    }

    private static void promise17(Check check) {
        check.heading("Promise 17");
        check.sentence("Returns the x of a stone.");
        check.due("xOf(60) at the power 0", Scene.at(60, 0).xOf(60), 1);
        check.due("xOf(60) at the power 1", Scene.at(60, 1).xOf(60), 31);
        check.sentence("Returns the x.");
        check.due("xOf(2) at the power 38", Scene.at(2, 38).xOf(2), 175568277047523L);
        check.due("xOf(2) at the power 39", Scene.at(2, 39).xOf(2), 423859315570607L);
        check.due("xOf(46) at the power 2", Scene.at(46, 2).xOf(46), 1184384449);
        check.due("xOf(46) at the power 3", Scene.at(46, 3).xOf(46), 57643991108495L);
        check.due("xOf(60) at the power 8", Scene.at(60, 8).xOf(60), 108942999582721L);
        numbersOfStones(check, PellMills::xOf);
        check.sentence("Throws NoSuchElementException if it is not laid");
        notLaid(check, PellMills::xOf);
        check.due("xOf(13), laid at the power 0", Scene.BUSY.made().xOf(13), 1);
    }

    private static void promise18(Check check) {
        check.heading("Promise 18");
        check.sentence("Returns the y of a stone.");
        check.due("yOf(60) at the power 0", Scene.at(60, 0).yOf(60), 0);
        check.due("yOf(60) at the power 1", Scene.at(60, 1).yOf(60), 4);
        check.sentence("Returns the y.");
        check.due("yOf(13) at the power 2", Scene.at(13, 2).yOf(13), 180);
        check.due("yOf(46) at the power 1", Scene.at(46, 1).yOf(46), 3588);
        for (int number = 2; number <= 60; number++) {
            if (!Scene.isSquare(number)) {
                normAtEachPower(check, number);
            }
        }
        numbersOfStones(check, PellMills::yOf);
        check.sentence("Throws NoSuchElementException if it is not laid");
        notLaid(check, PellMills::yOf);
        check.due("yOf(13), laid at the power 0", Scene.BUSY.made().yOf(13), 0);
    }

    private static void normAtEachPower(Check check, int number) {
        PellMills mills = Scene.milled(number);
        int greatest = Scene.greatestPower(number);
        for (int power = 0; power < greatest; power++) {
            check.due("the sign of x and y of " + number + " at " + power, Math.abs(norm(mills, number)), 1);
            mills.mill(number);
        }
        check.due("the sign of x and y of " + number + " at " + greatest, Math.abs(norm(mills, number)), 1);
    }

    private static int norm(PellMills mills, int number) {
        BigInteger x = BigInteger.valueOf(mills.xOf(number));
        BigInteger y = BigInteger.valueOf(mills.yOf(number));
        return x.multiply(x).subtract(y.multiply(y).multiply(BigInteger.valueOf(number))).intValueExact();
    }

    private static void promise19(Check check) {
        check.heading("Promise 19");
        check.sentence("Returns the sign of the power at which a stone stands, told by the sign of the unit and the power.");
        signs(check, PellMills::signOf);
        check.sentence("Returns 1 or -1.");
        check.due("signOf(53) at the power 0", Scene.at(53, 0).signOf(53), 1);
        check.due("signOf(53) at the power 1", Scene.at(53, 1).signOf(53), -1);
        check.due("signOf(53) at the power 2", Scene.at(53, 2).signOf(53), 1);
        check.due("signOf(60) at the power 1", Scene.at(60, 1).signOf(60), 1);
        numbersOfStones(check, PellMills::signOf);
        check.sentence("Throws NoSuchElementException if it is not laid");
        notLaid(check, PellMills::signOf);
        check.due("signOf(13), laid at the power 0", Scene.BUSY.made().signOf(13), 1);
    }

    private static void promise20(Check check) {
        check.heading("Promise 20");
        check.sentence("Returns the same, told by what is left of x and y when they are divided by 1000003.");
        signs(check, PellMills::signByRemainders);
        check.sentence("Returns 1 or -1.");
        check.due("signByRemainders(2) at the power 0", Scene.at(2, 0).signByRemainders(2), 1);
        check.due("signByRemainders(2) at the power 39", Scene.at(2, 39).signByRemainders(2), -1);
        check.due("signByRemainders(2) at the power 38", Scene.at(2, 38).signByRemainders(2), 1);
        check.due("signByRemainders(60) at the power 8", Scene.at(60, 8).signByRemainders(60), 1);
        numbersOfStones(check, PellMills::signByRemainders);
        check.sentence("Throws NoSuchElementException if it is not laid");
        notLaid(check, PellMills::signByRemainders);
        check.due("signByRemainders(13), laid at the power 0", Scene.BUSY.made().signByRemainders(13), 1);
    }

    /** The sign of each power of each number, from 0 to the greatest one. */
    private static void signs(Check check, Check.CallOfNumber made) {
        for (int number = 2; number <= 60; number++) {
            if (!Scene.isSquare(number)) {
                PellMills mills = Scene.milled(number);
                int greatest = Scene.greatestPower(number);
                for (int power = 0; power < greatest; power++) {
                    check.due("the sign of " + number + " at " + power, made.answer(mills, number), norm(mills, number));
                    mills.mill(number);
                }
                check.due("the sign of " + number + " at " + greatest, made.answer(mills, number), norm(mills, number));
            }
        }
    }

    private static void promise21(Check check) {
        check.heading("Promise 21");
        check.sentence("Returns the root of the number of a stone, told nearly: its x, as a float, divided by its y, as a float.");
        for (int number = 2; number <= 60; number++) {
            if (!Scene.isSquare(number)) {
                nearRoots(check, number);
            }
        }
        check.sentence("Returns the quotient.");
        check.due("nearRoot(13) at the power 1", Scene.at(13, 1).nearRoot(13), 3.6f);
        check.due("nearRoot(2) at the power 1", Scene.at(2, 1).nearRoot(2), 1f);
        // Here the floats of x and y do not divide to the float of the exact quotient.
        check.due("nearRoot(53) at the power 5", Scene.at(53, 5).nearRoot(53), 7.2801103591918945f);
        numbersOfStones(check, PellMills::nearRoot);
        check.sentence("Throws NoSuchElementException if it is not laid, or it stands at the power 0");
        notLaid(check, PellMills::nearRoot);
        check.refused("nearRoot(13) at the power 0", Check.NONE, Scene.BUSY, at -> at.nearRoot(13));
        check.due("nearRoot(7) at the power 1", Scene.BUSY.made().nearRoot(7), 8f / 3f);
        PellMills mills = Scene.at(7, 1);
        mills.millBack(7);
        check.dueThrow("nearRoot(7), milled back to the power 0", Check.NONE, () -> mills.nearRoot(7));
    }

    private static void nearRoots(Check check, int number) {
        PellMills mills = Scene.milled(number);
        int greatest = Scene.greatestPower(number);
        for (int power = 1; power <= greatest; power++) {
            mills.mill(number);
            float due = BigInteger.valueOf(mills.xOf(number)).floatValue() / BigInteger.valueOf(mills.yOf(number)).floatValue();
            check.due("nearRoot(" + number + ") at " + power, mills.nearRoot(number), due);
        }
    }

    /** The sentences that promises 16 to 21 share. */
    private static void numbersOfStones(Check check, Check.CallOfNumber made) {
        check.sentence("number: 2 to 60");
        check.numbersFrom2To60(made);
        check.changesNothing("the call with 2, which is laid", Scene.FULL, at -> made.answer(at, 2));
        check.changesNothing("the call with 60, which is laid", Scene.FULL, at -> made.answer(at, 60));
        check.sentence(OUT_OF_RANGE);
        check.numbersOutOfRange(made);
    }

    private static void notLaid(Check check, Check.CallOfNumber made) {
        check.refused("the call with 2 of none", Check.NONE, Scene.FRESH, at -> made.answer(at, 2));
        check.refused("the call with 60 of none", Check.NONE, Scene.FRESH, at -> made.answer(at, 60));
        check.refused("the call with 3, which was taken", Check.NONE, Scene.BUSY, at -> made.answer(at, 3));
        check.refused("the call with 6 beside 7", Check.NONE, Scene.BUSY, at -> made.answer(at, 6));
        check.refused("the call with 8 beside 7", Check.NONE, Scene.BUSY, at -> made.answer(at, 8));
        check.refused("the call with 4, a square", Check.NONE, Scene.BUSY, at -> made.answer(at, 4));
        check.changesNothing("the call with 7, which is laid", Scene.BUSY, at -> made.answer(at, 7));
    }
}
