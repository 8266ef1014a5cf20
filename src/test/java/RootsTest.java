/** Promises 7 to 12: terms, periods, units, least solutions. */
public final class RootsTest {
    private static final int[] WRONG_NUMBERS = {1, 61, 0, -7, Integer.MIN_VALUE, Integer.MAX_VALUE};
    private static final int[] SQUARES = {4, 9, 16, 25, 36, 49};

    // number, period, x and y of the unit, y of the least solution
    private static final int[][] TABLE = {
        {2, 1, 1, 1, 2}, {3, 2, 2, 1, 1}, {5, 1, 2, 1, 4}, {6, 2, 5, 2, 2}, {7, 4, 8, 3, 3},
        {8, 2, 3, 1, 1}, {10, 1, 3, 1, 6}, {13, 5, 18, 5, 180}, {19, 6, 170, 39, 39}, {29, 5, 70, 13, 1820},
        {31, 8, 1520, 273, 273}, {41, 3, 32, 5, 320}, {43, 10, 3482, 531, 531}, {46, 12, 24335, 3588, 3588},
        {50, 1, 7, 1, 14}, {53, 5, 182, 25, 9100}, {58, 7, 99, 13, 2574}, {60, 4, 31, 4, 4},
    };

    // number, then its terms from 0 on through more than one period
    private static final int[][] TERMS = {
        {2, 1, 2, 2, 2}, {3, 1, 1, 2, 1, 2}, {7, 2, 1, 1, 1, 4, 1, 1, 1, 4, 1},
        {13, 3, 1, 1, 1, 1, 6, 1, 1, 1, 1, 6, 1}, {60, 7, 1, 2, 1, 14, 1, 2, 1, 14},
        {46, 6, 1, 3, 1, 1, 2, 6, 2, 1, 1, 3, 1, 12, 1},
    };

    public static void main(String[] args) {
        Check check = new Check();
        checkTable(check);
        checkTerms(check);
        checkAllNumbers(check);
        checkWrongInputs(check);
        check.end();
    }

    private static void checkTable(Check check) {
        PellMills mills = new PellMills();
        for (int[] row : TABLE) {
            check.due("promise 7: periodOf(" + row[0] + ")", mills.periodOf(row[0]), row[1]);
            check.due("promise 9: unitX(" + row[0] + ")", mills.unitX(row[0]), row[2]);
            check.due("promise 10: unitY(" + row[0] + ")", mills.unitY(row[0]), row[3]);
            check.due("promise 11: leastY(" + row[0] + ")", mills.leastY(row[0]), row[4]);
            check.due("promise 12: leastYBySearch(" + row[0] + ")", mills.leastYBySearch(row[0]), row[4]);
        }
        check.due("roots change no stones", mills.stones() + mills.states(), 0);
    }

    private static void checkTerms(Check check) {
        PellMills mills = new PellMills();
        for (int[] row : TERMS) {
            for (int place = 0; place + 1 < row.length; place++) {
                check.due("promise 8: termAt(" + row[0] + ", " + place + ")", mills.termAt(row[0], place), row[place + 1]);
            }
        }
        check.due("promise 8: termAt(7, 99)", mills.termAt(7, 99), 1);
        check.due("promise 8: termAt(7, 96)", mills.termAt(7, 96), 4);
        check.due("promise 8: termAt(2, 99)", mills.termAt(2, 99), 2);
    }

    private static void checkAllNumbers(Check check) {
        for (int number = 2; number <= 60; number++) {
            PellMills mills = new PellMills();
            if (isSquare(number)) {
                continue;
            }
            int period = mills.periodOf(number);
            long x = mills.unitX(number);
            long y = mills.unitY(number);
            long least = mills.leastY(number);
            check.due("promises 9, 10: norm of the unit of " + number, x * x - number * y * y, period % 2 == 0 ? 1 : -1);
            check.due("promises 11, 12: least y of " + number, mills.leastYBySearch(number), least);
            check.due("promise 12: searched y of " + number, least, searched(number));
            check.due("promise 8: term at the period of " + number, mills.termAt(number, period), 2L * mills.termAt(number, 0));
            for (int place = 1; place < period; place++) {
                check.due("promise 7: term " + place + " of " + number + " ends the period",
                    mills.termAt(number, place) == 2 * mills.termAt(number, 0), false);
            }
        }
    }

    private static void checkWrongInputs(Check check) {
        PellMills mills = new PellMills();
        for (int number : WRONG_NUMBERS) {
            check.dueThrow("promise 7: periodOf(" + number + ")", Check.ARGUMENT, () -> mills.periodOf(number));
            check.dueThrow("promise 8: termAt(" + number + ", 0)", Check.ARGUMENT, () -> mills.termAt(number, 0));
            check.dueThrow("promise 9: unitX(" + number + ")", Check.ARGUMENT, () -> mills.unitX(number));
            check.dueThrow("promise 10: unitY(" + number + ")", Check.ARGUMENT, () -> mills.unitY(number));
            check.dueThrow("promise 11: leastY(" + number + ")", Check.ARGUMENT, () -> mills.leastY(number));
            check.dueThrow("promise 12: leastYBySearch(" + number + ")", Check.ARGUMENT, () -> mills.leastYBySearch(number));
        }
        for (int number : SQUARES) {
            check.dueThrow("promise 7: periodOf(" + number + ")", Check.NONE, () -> mills.periodOf(number));
            check.dueThrow("promise 8: termAt(" + number + ", 0)", Check.NONE, () -> mills.termAt(number, 0));
            check.dueThrow("promise 8: termAt(" + number + ", 100)", Check.ARGUMENT, () -> mills.termAt(number, 100));
            check.dueThrow("promise 9: unitX(" + number + ")", Check.NONE, () -> mills.unitX(number));
            check.dueThrow("promise 10: unitY(" + number + ")", Check.NONE, () -> mills.unitY(number));
            check.dueThrow("promise 11: leastY(" + number + ")", Check.NONE, () -> mills.leastY(number));
            check.dueThrow("promise 12: leastYBySearch(" + number + ")", Check.NONE, () -> mills.leastYBySearch(number));
        }
        for (int place : new int[] {-1, 100, Integer.MIN_VALUE, Integer.MAX_VALUE}) {
            check.dueThrow("promise 8: termAt(2, " + place + ")", Check.ARGUMENT, () -> mills.termAt(2, place));
        }
    }

    private static boolean isSquare(int number) {
        int root = (int) Math.round(Math.sqrt(number));
        return root * root == number;
    }

    private static long searched(int number) {
        for (long y = 1;; y++) {
            long wanted = number * y * y + 1;
            long x = Math.round(Math.sqrt(wanted));
            if (x * x == wanted) {
                return y;
            }
        }
    }
}
