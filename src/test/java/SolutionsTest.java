/** Promises 22 to 26: the solutions of all stones in order. */
public final class SolutionsTest {
    private static final long GREATEST = 1000000000000000L;

    public static void main(String[] args) {
        Check check = new Check();
        checkNone(check);
        checkOrder(check);
        checkEnds(check);
        checkBounds(check);
        checkMostSolutions(check);
        check.end();
    }

    private static void checkNone(Check check) {
        PellMills mills = new PellMills();
        check.due("promise 22: solutions() of none", mills.solutions(), 0);
        check.due("promise 26: solutionsUpTo(greatest) of none", mills.solutionsUpTo(GREATEST), 0);
        check.dueThrow("promise 23: xAt(0) of none", Check.NONE, () -> mills.xAt(0));
        check.dueThrow("promise 24: xAtBySet(0) of none", Check.NONE, () -> mills.xAtBySet(0));
        check.dueThrow("promise 25: stoneAt(0) of none", Check.NONE, () -> mills.stoneAt(0));
    }

    private static void checkOrder(Check check) {
        // 8 is laid before 2 and milled: neither matters to the order.
        PellMills mills = Check.milled(8, 2, 3, 5, 8, 8);
        long[] xs = {1, 2, 2, 3, 3, 7, 7, 9, 17, 17, 26, 38, 41};
        int[] stones = {2, 3, 5, 2, 8, 2, 3, 5, 2, 8, 3, 5, 2};
        for (int place = 0; place < xs.length; place++) {
            check.due("promise 23: xAt(" + place + ")", mills.xAt(place), xs[place]);
            check.due("promise 24: xAtBySet(" + place + ")", mills.xAtBySet(place), xs[place]);
            check.due("promise 25: stoneAt(" + place + ")", mills.stoneAt(place), stones[place]);
        }
        mills.take(2);
        check.due("promise 23: xAt(0) after take(2)", mills.xAt(0), 2);
        check.due("promise 24: xAtBySet(0) after take(2)", mills.xAtBySet(0), 2);
        check.due("promise 25: stoneAt(0) after take(2)", mills.stoneAt(0), 3);
    }

    private static void checkEnds(Check check) {
        PellMills mills = Check.milled(46, 60);
        check.due("promise 22: solutions() of 46 and 60", mills.solutions(), 11);
        check.due("promise 23: xAt(0)", mills.xAt(0), 31);
        check.due("promise 24: xAtBySet(0)", mills.xAtBySet(0), 31);
        check.due("promise 25: stoneAt(0)", mills.stoneAt(0), 60);
        check.due("promise 23: xAt(10)", mills.xAt(10), 108942999582721L);
        check.due("promise 24: xAtBySet(10)", mills.xAtBySet(10), 108942999582721L);
        check.due("promise 25: stoneAt(10)", mills.stoneAt(10), 60);
        for (int place : new int[] {11, 12, 400, 1000000, Integer.MAX_VALUE}) {
            check.dueThrow("promise 23: xAt(" + place + ")", Check.NONE, () -> mills.xAt(place));
            check.dueThrow("promise 24: xAtBySet(" + place + ")", Check.NONE, () -> mills.xAtBySet(place));
            check.dueThrow("promise 25: stoneAt(" + place + ")", Check.NONE, () -> mills.stoneAt(place));
        }
        for (int place : new int[] {-1, -2, Integer.MIN_VALUE}) {
            check.dueThrow("promise 23: xAt(" + place + ")", Check.ARGUMENT, () -> mills.xAt(place));
            check.dueThrow("promise 24: xAtBySet(" + place + ")", Check.ARGUMENT, () -> mills.xAtBySet(place));
            check.dueThrow("promise 25: stoneAt(" + place + ")", Check.ARGUMENT, () -> mills.stoneAt(place));
        }
        check.due("the order changes nothing", mills.states(), 2);
    }

    private static void checkBounds(Check check) {
        PellMills mills = Check.milled(2, 3);
        long[][] rows = {{0, 0}, {1, 1}, {2, 2}, {3, 3}, {6, 3}, {7, 5}, {8, 5}, {16, 5}, {17, 6}, 
            {371198523608646L, 63}, {371198523608647L, 64}, {423859315570606L, 64}, {423859315570607L, 65},
            {GREATEST - 1, 65}, {GREATEST, 65}};
        for (long[] row : rows) {
            check.due("promise 26: solutionsUpTo(" + row[0] + ")", mills.solutionsUpTo(row[0]), row[1]);
        }
        check.due("promise 22: solutions() of 2 and 3", mills.solutions(), 65);
        for (long bound : new long[] {-1, GREATEST + 1, Long.MIN_VALUE, Long.MAX_VALUE}) {
            check.dueThrow("promise 26: solutionsUpTo(" + bound + ")", Check.ARGUMENT, () -> mills.solutionsUpTo(bound));
        }
    }

    private static void checkMostSolutions(Check check) {
        PellMills mills = Check.milled(2, 3, 5, 8, 10, 15, 17, 24);
        int all = mills.solutions();
        check.due("promise 26: all of eight stones", mills.solutionsUpTo(GREATEST), all);
        long before = 0;
        for (int place = 0; place < all; place++) {
            long x = mills.xAt(place);
            check.due("promise 24: xAtBySet(" + place + ") of eight", mills.xAtBySet(place), x);
            check.due("promise 23: xAt(" + place + ") in order", x >= before, true);
            before = x;
        }
        check.dueThrow("promise 23: xAt behind the last of eight", Check.NONE, () -> mills.xAt(all));
        check.dueThrow("promise 24: xAtBySet behind the last of eight", Check.NONE, () -> mills.xAtBySet(all));
    }
}
