import java.math.BigInteger;

/** Promises 6 to 12, and what the document says of roots, terms and units. */
public final class RootsTest {
    private static final String OUT_OF_RANGE = "Throws IllegalArgumentException if number is out of range";

    // number, period, x and y of the unit, y of the least solution
    private static final int[][] TABLE = {
        {2, 1, 1, 1, 2}, {3, 2, 2, 1, 1}, {5, 1, 2, 1, 4}, {6, 2, 5, 2, 2}, {7, 4, 8, 3, 3},
        {8, 2, 3, 1, 1}, {10, 1, 3, 1, 6}, {13, 5, 18, 5, 180}, {15, 2, 4, 1, 1}, {17, 1, 4, 1, 8},
        {19, 6, 170, 39, 39}, {24, 2, 5, 1, 1}, {26, 1, 5, 1, 10}, {29, 5, 70, 13, 1820},
        {31, 8, 1520, 273, 273}, {35, 2, 6, 1, 1}, {37, 1, 6, 1, 12}, {41, 3, 32, 5, 320},
        {43, 10, 3482, 531, 531}, {46, 12, 24335, 3588, 3588}, {48, 2, 7, 1, 1}, {50, 1, 7, 1, 14},
        {53, 5, 182, 25, 9100}, {58, 7, 99, 13, 2574}, {59, 6, 530, 69, 69}, {60, 4, 31, 4, 4},
    };

    // number, then its terms from 0 on through more than one period
    private static final int[][] TERMS = {
        {2, 1, 2, 2, 2}, {3, 1, 1, 2, 1, 2}, {7, 2, 1, 1, 1, 4, 1, 1, 1, 4, 1},
        {13, 3, 1, 1, 1, 1, 6, 1, 1, 1, 1, 6, 1}, {60, 7, 1, 2, 1, 14, 1, 2, 1, 14},
        {46, 6, 1, 3, 1, 1, 2, 6, 2, 1, 1, 3, 1, 12, 1, 3, 1},
    };

    public static void main(String[] args) {
        Check check = new Check();
        run(check);
        check.end();
    }

    static void run(Check check) {
        termsOfRoots(check);
        unitsAndPowers(check);
        promise6(check);
        promise7(check);
        promise8(check);
        promise9(check);
        promise10(check);
        promise11(check);
        promise12(check);
    }

    private static void termsOfRoots(Check check) {
        check.heading("Roots, terms, units");
        check.sentence("Numbers d from 2 to 60 are looked at.");
        PellMills mills = new PellMills();
        check.due("periodOf(2)", mills.periodOf(2), 1);
        check.due("periodOf(60)", mills.periodOf(60), 4);
        check.dueThrow("periodOf(1)", Check.ARGUMENT, () -> mills.periodOf(1));
        check.dueThrow("periodOf(61)", Check.ARGUMENT, () -> mills.periodOf(61));
        check.sentence("The root of d, rounded down, is w.");
        for (int number = 2; number <= 60; number++) {
            if (!Scene.isSquare(number)) {
                int whole = BigInteger.valueOf(number).sqrt().intValueExact();
                check.due("termAt(" + number + ", 0)", mills.termAt(number, 0), whole);
            }
        }
        check.sentence("Unless d is a square, its terms are told like this: ...");
        for (int[] row : TERMS) {
            for (int place = 0; place + 1 < row.length; place++) {
                check.due("termAt(" + row[0] + ", " + place + ")", mills.termAt(row[0], place), row[place + 1]);
            }
        }
        for (int square : Scene.SQUARES) {
            check.dueThrow("termAt(" + square + ", 0)", Check.NONE, () -> mills.termAt(square, 0));
        }
        check.sentence("The period is the number of the first term, from 1 on, that is 2 times w.");
        for (int number = 2; number <= 60; number++) {
            if (!Scene.isSquare(number)) {
                firstTermThatIsTwice(check, number);
            }
        }
    }

    private static void firstTermThatIsTwice(Check check, int number) {
        PellMills mills = new PellMills();
        int whole = mills.termAt(number, 0);
        int period = mills.periodOf(number);
        for (int place = 1; place < period; place++) {
            check.due("termAt(" + number + ", " + place + ") ahead of the period is twice the root",
                mills.termAt(number, place) == 2 * whole, false);
        }
        check.due("termAt(" + number + ", " + period + "), at the period", mills.termAt(number, period), 2 * whole);
        for (int place = 1; place + period <= 99; place++) {
            check.due("termAt(" + number + ", " + (place + period) + "), which comes again",
                mills.termAt(number, place + period), mills.termAt(number, place));
        }
    }

    private static void unitsAndPowers(Check check) {
        PellMills mills = new PellMills();
        check.sentence("Of the terms 0 up to the period less 1 come x and y: ...");
        check.due("unitX(3), of the terms 0 and 1", mills.unitX(3), 2);
        check.due("unitY(3), of the terms 0 and 1", mills.unitY(3), 1);
        check.due("unitX(41), of the terms 0 to 2", mills.unitX(41), 32);
        check.due("unitY(41), of the terms 0 to 2", mills.unitY(41), 5);
        check.sentence("(The x of the term 0 is w, and the y is 1.) The last ones are the unit of d: "
            + "its sign, x times x, less d times y times y, is 1, if the period is even, otherwise -1.");
        for (int number : new int[] {2, 5, 10, 17, 26, 37, 50}) {
            check.due("unitX(" + number + "), of the term 0 alone", mills.unitX(number), mills.termAt(number, 0));
            check.due("unitY(" + number + "), of the term 0 alone", mills.unitY(number), 1);
        }
        for (int number = 2; number <= 60; number++) {
            if (!Scene.isSquare(number)) {
                long x = mills.unitX(number);
                long y = mills.unitY(number);
                check.due("the sign of the unit of " + number, x * x - number * y * y, mills.periodOf(number) % 2 == 0 ? 1 : -1);
            }
        }
        check.sentence("The power 0 of a unit is x 1 and y 0; each next power has as x: ...");
        for (int number : new int[] {2, 7, 13, 60}) {
            powersOfUnit(check, number);
        }
        check.sentence("Its sign is found in the same way.");
        for (int power = 0; power <= 6; power++) {
            check.due("the sign of 2 at the power " + power, Scene.at(2, power).signOf(2), power % 2 == 0 ? 1 : -1);
            check.due("the sign of 7 at the power " + power, Scene.at(7, power).signOf(7), 1);
        }
        check.sentence("The least solution of d is the first power, from 1 on, with the sign 1.");
        for (int number = 2; number <= 60; number++) {
            if (!Scene.isSquare(number)) {
                boolean even = mills.periodOf(number) % 2 == 0;
                check.due("leastY(" + number + ")", mills.leastY(number), Scene.at(number, even ? 1 : 2).yOf(number));
            }
        }
    }

    private static void powersOfUnit(Check check, int number) {
        PellMills mills = Scene.milled(number);
        long unitX = mills.unitX(number);
        long unitY = mills.unitY(number);
        long x = 1;
        long y = 0;
        for (int power = 0; power <= 4; power++) {
            check.due("xOf(" + number + ") at " + power, mills.xOf(number), x);
            check.due("yOf(" + number + ") at " + power, mills.yOf(number), y);
            long next = x * unitX + number * y * unitY;
            y = x * unitY + y * unitX;
            x = next;
            mills.mill(number);
        }
    }

    private static void promise6(Check check) {
        check.heading("Promise 6");
        check.sentence("Tells why a stone is not laid.");
        PellMills mills = new PellMills();
        check.due("whyNot(2) ahead of lay", mills.whyNot(2), 0);
        mills.lay(2);
        check.due("whyNot(2) behind lay", mills.whyNot(2), 2);
        mills.take(2);
        check.due("whyNot(2) behind take", mills.whyNot(2), 0);
        check.sentence("number: 2 to 60");
        check.numbersFrom2To60(PellMills::whyNot);
        check.due("whyNot(60) of a new object", mills.whyNot(60), 0);
        check.due("whyNot(60) of eight stones", Scene.FULL.made().whyNot(60), 2);
        check.sentence("Returns the reason, 1 to 3; 0 if it is laid.");
        for (int number = 2; number <= 60; number++) {
            boolean square = Scene.isSquare(number);
            check.due("whyNot(" + number + ") of a new object", mills.whyNot(number), square ? 1 : 0);
            PellMills full = Scene.FULL.made();
            check.due("whyNot(" + number + ") beside eight stones", full.whyNot(number), square ? 1 : full.isLaid(number) ? 2 : 3);
            full.take(3);
            check.due("whyNot(" + number + ") beside seven stones", full.whyNot(number), square ? 1 : full.isLaid(number) ? 2 : 0);
        }
        check.sentence("Throws IllegalArgumentException if number is out of range");
        check.numbersOutOfRange(PellMills::whyNot);
    }

    private static void promise7(Check check) {
        check.heading("Promise 7");
        check.sentence("Returns the period of a number.");
        check.due("periodOf(13), laid and milled", Scene.at(13, 3).periodOf(13), 5);
        check.sentence("Returns the period.");
        table(check, "periodOf", PellMills::periodOf, 1);
        numbersAndSquares(check, PellMills::periodOf, OUT_OF_RANGE);
    }

    private static void promise8(Check check) {
        check.heading("Promise 8");
        check.sentence("Returns a term of the root of a number.");
        PellMills mills = new PellMills();
        check.due("termAt(46, 5)", mills.termAt(46, 5), 2);
        check.due("termAt(46, 6), the next one", mills.termAt(46, 6), 6);
        check.due("termAt(46, 5) again", mills.termAt(46, 5), 2);
        check.sentence("place: 0 to 99: the number of the term");
        check.due("termAt(7, 0)", mills.termAt(7, 0), 2);
        check.due("termAt(7, 1)", mills.termAt(7, 1), 1);
        check.due("termAt(7, 96)", mills.termAt(7, 96), 4);
        check.due("termAt(7, 98)", mills.termAt(7, 98), 1);
        check.due("termAt(7, 99)", mills.termAt(7, 99), 1);
        check.due("termAt(3, 98)", mills.termAt(3, 98), 2);
        check.due("termAt(3, 99)", mills.termAt(3, 99), 1);
        check.sentence("Returns the term.");
        check.due("termAt(60, 3)", mills.termAt(60, 3), 1);
        check.due("termAt(60, 4)", mills.termAt(60, 4), 14);
        numbersAndSquares(check, (at, number) -> at.termAt(number, 0), "Throws IllegalArgumentException if number or place is out of range");
        check.sentence("Throws IllegalArgumentException if number or place is out of range");
        check.numbersOutOfRange((at, number) -> at.termAt(number, 99));
        for (int place : new int[] {-1, 100, -2, 101, 256, Integer.MIN_VALUE, Integer.MAX_VALUE}) {
            for (int number : new int[] {2, 13, 60, 4, 49}) {
                check.refused("termAt(" + number + ", " + place + ")", Check.ARGUMENT, Scene.BUSY, at -> at.termAt(number, place));
            }
        }
    }

    private static void promise9(Check check) {
        check.heading("Promise 9");
        check.sentence("Returns the x of the unit of a number.");
        check.due("unitX(13), laid and milled", Scene.at(13, 3).unitX(13), 18);
        check.sentence("Returns the x.");
        table(check, "unitX", PellMills::unitX, 2);
        numbersAndSquares(check, PellMills::unitX, OUT_OF_RANGE);
    }

    private static void promise10(Check check) {
        check.heading("Promise 10");
        check.sentence("Returns the y of the unit of a number.");
        check.due("unitY(13), laid and milled", Scene.at(13, 3).unitY(13), 5);
        check.sentence("Returns the y.");
        table(check, "unitY", PellMills::unitY, 3);
        numbersAndSquares(check, PellMills::unitY, OUT_OF_RANGE);
    }

    private static void promise11(Check check) {
        check.heading("Promise 11");
        check.sentence("Returns the y of the least solution of a number, found by its period.");
        check.due("leastY(13), laid and milled", Scene.at(13, 3).leastY(13), 180);
        check.sentence("Returns the y.");
        table(check, "leastY", PellMills::leastY, 4);
        numbersAndSquares(check, PellMills::leastY, OUT_OF_RANGE);
    }

    private static void promise12(Check check) {
        check.heading("Promise 12");
        check.sentence("Returns the same, found by searching: the least y, from 1 on, such that 1 more than "
            + "the number times y times y is a square.");
        PellMills mills = new PellMills();
        for (int number = 2; number <= 60; number++) {
            if (!Scene.isSquare(number)) {
                check.due("leastYBySearch(" + number + ")", mills.leastYBySearch(number), searched(number));
                check.due("leastY(" + number + ")", mills.leastY(number), mills.leastYBySearch(number));
            }
        }
        check.sentence("Returns the y.");
        table(check, "leastYBySearch", PellMills::leastYBySearch, 4);
        numbersAndSquares(check, PellMills::leastYBySearch, OUT_OF_RANGE);
    }

    private static void table(Check check, String call, Check.CallOfNumber made, int column) {
        PellMills mills = new PellMills();
        for (int[] row : TABLE) {
            check.due(call + "(" + row[0] + ")", made.answer(mills, row[0]), row[column]);
        }
    }

    /** The sentences that promises 7 to 12 share. */
    private static void numbersAndSquares(Check check, Check.CallOfNumber made, String sentenceOfRange) {
        check.sentence("number: 2 to 60");
        check.numbersFrom2To60(made);
        check.sentence(sentenceOfRange);
        check.numbersOutOfRange(made);
        check.sentence("Throws NoSuchElementException if it is a square");
        for (int square : Scene.SQUARES) {
            for (Scene scene : Scene.ALL) {
                check.refused("the call with " + square, Check.NONE, scene, at -> made.answer(at, square));
                check.changesNothing("the call with " + (square - 1), scene, at -> made.answer(at, square - 1));
                check.changesNothing("the call with " + (square + 1), scene, at -> made.answer(at, square + 1));
            }
        }
    }

    private static long searched(int number) {
        for (long y = 1;; y++) {
            BigInteger wanted = BigInteger.valueOf(number * y * y + 1);
            if (wanted.sqrtAndRemainder()[1].signum() == 0) {
                return y;
            }
        }
    }
}
