import java.util.Map;
import java.util.TreeMap;

/** Promises 22 to 26, and what the document says of the solutions of all stones in order. */
public final class SolutionsTest {
    private static final long GREATEST = 1000000000000000L;

    // The solutions of 2, 3, 5 and 8 up to 41, which are the first ones.
    private static final long[] XS = {1, 2, 2, 3, 3, 7, 7, 9, 17, 17, 26, 38, 41};
    private static final int[] STONES = {2, 3, 5, 2, 8, 2, 3, 5, 2, 8, 3, 5, 2};

    public static void main(String[] args) {
        Check check = new Check();
        run(check);
        check.end();
    }

    static void run(Check check) {
        whichSolutions(check);
        order(check);
        promise22(check);
        promise23(check);
        promise24(check);
        promise25(check);
        promise26(check);
    }

    private static void whichSolutions(Check check) {
        check.heading("Stones");
        check.sentence("The solutions of all stones that are laid are all powers from 1 on, whatever they stand at, "
            + "whose x is not above 1000000000000000.");
        for (int number = 2; number <= 60; number++) {
            if (!Scene.isSquare(number)) {
                solutionsOfOne(check, number);
            }
        }
        PellMills mills = Scene.milled(8, 2);
        int all = mills.solutions();
        for (int power = 1; power <= 39; power++) {
            mills.mill(2);
            check.due("solutions(), 2 at the power " + power, mills.solutions(), all);
            check.due("xAt(0), 2 at the power " + power, mills.xAt(0), 1);
            check.due("xAtBySet(0), 2 at the power " + power, mills.xAtBySet(0), 1);
        }
        mills.take(2);
        check.due("xAt(0) behind take(2)", mills.xAt(0), 3);
        check.due("xAtBySet(0) behind take(2)", mills.xAtBySet(0), 3);
        check.due("stoneAt(0) behind take(2)", mills.stoneAt(0), 8);
    }

    /** As many powers as it can be milled to, the power 0 not among them. */
    private static void solutionsOfOne(Check check, int number) {
        PellMills mills = Scene.milled(number);
        int all = Scene.greatestPower(number);
        for (int place = 0; place < all; place++) {
            long x = mills.mill(number);
            check.due("xAt(" + place + ") of " + number, mills.xAt(place), x);
            check.due("xAtBySet(" + place + ") of " + number, mills.xAtBySet(place), x);
            check.due("stoneAt(" + place + ") of " + number, mills.stoneAt(place), number);
        }
        check.dueThrow("mill(" + number + ") beyond all solutions", Check.STATE, () -> mills.mill(number));
        check.dueThrow("xAt(" + all + ") of " + number, Check.NONE, () -> mills.xAt(all));
        check.dueThrow("xAtBySet(" + all + ") of " + number, Check.NONE, () -> mills.xAtBySet(all));
        check.dueThrow("stoneAt(" + all + ") of " + number, Check.NONE, () -> mills.stoneAt(all));
    }

    private static void order(Check check) {
        check.sentence("They are in order by their x, those with the same x by their d.");
        firstOnes(check, Scene.milled(2, 3, 5, 8));
        firstOnes(check, Scene.milled(8, 5, 3, 2));
        firstOnes(check, Scene.milled(8, 2, 8, 3, 8, 5, 2, 46, 46));
        // 7 is an x of 2, 3, 12 and 48.
        PellMills mills = Scene.milled(48, 12, 3, 2);
        int[] stones = {2, 3, 2, 2, 3, 12, 48, 2};
        long[] xs = {1, 2, 3, 7, 7, 7, 7, 17};
        for (int place = 0; place < stones.length; place++) {
            check.due("stoneAt(" + place + ")", mills.stoneAt(place), stones[place]);
            check.due("xAt(" + place + ")", mills.xAt(place), xs[place]);
            check.due("xAtBySet(" + place + ")", mills.xAtBySet(place), xs[place]);
        }
    }

    private static void firstOnes(Check check, PellMills mills) {
        for (int place = 0; place < XS.length; place++) {
            check.due("xAt(" + place + ")", mills.xAt(place), XS[place]);
            check.due("xAtBySet(" + place + ")", mills.xAtBySet(place), XS[place]);
            check.due("stoneAt(" + place + ")", mills.stoneAt(place), STONES[place]);
        }
    }

    private static void promise22(Check check) {
        check.heading("Promise 22");
        check.sentence("Returns how many solutions of all stones there are.");
        check.due("solutions() of none", new PellMills().solutions(), 0);
        check.due("solutions() of 46", Scene.milled(46).solutions(), 3);
        check.due("solutions() of 60", Scene.milled(60).solutions(), 8);
        check.due("solutions() of 46 and 60", Scene.milled(46, 60).solutions(), 11);
        check.sentence("Returns how many.");
        check.due("solutions() of 2", Scene.milled(2).solutions(), 39);
        check.due("solutions() of 2 and 3", Scene.milled(2, 3).solutions(), 65);
        // Those with the same x count twice: all of 8 are some of 2.
        check.due("solutions() of 8", Scene.milled(8).solutions(), 19);
        check.due("solutions() of 2 and 8", Scene.milled(2, 8).solutions(), 58);
        mostSolutions(check);
    }

    private static void mostSolutions(Check check) {
        int[] numbers = {2, 3, 5, 8, 10, 15, 17, 24};
        PellMills mills = Scene.milled(numbers);
        int all = mills.solutions();
        int one = 0;
        for (int number : numbers) {
            one += Scene.milled(number).solutions();
        }
        check.due("solutions() of eight stones", all, one);
        Map<Long, Integer> upTo = new TreeMap<>();
        for (int place = 0; place < all; place++) {
            long x = mills.xAt(place);
            check.due("xAtBySet(" + place + ") of eight", mills.xAtBySet(place), x);
            upTo.put(x, place + 1);
        }
        PellMills again = Scene.milled(numbers);
        for (long x : upTo.keySet()) {
            int count = upTo.get(x);
            check.due("solutionsUpTo(" + x + ") of eight", again.solutionsUpTo(x), count);
        }
        check.dueThrow("xAt behind the last of eight", Check.NONE, () -> mills.xAt(all));
        check.dueThrow("xAtBySet behind the last of eight", Check.NONE, () -> mills.xAtBySet(all));
        check.dueThrow("stoneAt behind the last of eight", Check.NONE, () -> mills.stoneAt(all));
    }

    private static void promise23(Check check) {
        check.heading("Promise 23");
        check.sentence("Returns the x of a solution, told by a queue of the next powers of all stones.");
        PellMills mills = Scene.milled(46, 60);
        check.due("xAt(3), the next power of 46", mills.xAt(3), 119071);
        check.due("xAt(2), the next power of 60 ahead of it", mills.xAt(2), 24335);
        check.sentence("place: 0 for the first one, and so on");
        check.due("xAt(0)", mills.xAt(0), 31);
        check.due("xAt(1)", mills.xAt(1), 1921);
        check.sentence("Returns the x.");
        check.due("xAt(9)", mills.xAt(9), 57643991108495L);
        check.due("xAt(10), the last one", mills.xAt(10), 108942999582721L);
        places(check, (at, place) -> at.xAt(place));
    }

    private static void promise24(Check check) {
        check.heading("Promise 24");
        check.sentence("Returns the same, told by a set of all powers.");
        PellMills mills = Scene.FULL.made();
        int all = mills.solutions();
        for (int place = 0; place < all; place++) {
            check.due("xAtBySet(" + place + ") of eight stones", mills.xAtBySet(place), mills.xAt(place));
        }
        check.sentence("place: 0 for the first one, and so on");
        mills = Scene.milled(46, 60);
        check.due("xAtBySet(0)", mills.xAtBySet(0), 31);
        check.due("xAtBySet(1)", mills.xAtBySet(1), 1921);
        check.sentence("Returns the x.");
        check.due("xAtBySet(9)", mills.xAtBySet(9), 57643991108495L);
        check.due("xAtBySet(10), the last one", mills.xAtBySet(10), 108942999582721L);
        places(check, (at, place) -> at.xAtBySet(place));
    }

    private static void promise25(Check check) {
        check.heading("Promise 25");
        check.sentence("Returns the number of the stone of which a solution is.");
        PellMills mills = Scene.milled(46, 60);
        int[] stones = {60, 60, 46, 60, 60, 60, 46, 60, 60, 46, 60};
        for (int place = 0; place < stones.length; place++) {
            check.due("stoneAt(" + place + ")", mills.stoneAt(place), stones[place]);
        }
        check.sentence("place: 0 for the first one, and so on");
        mills = Scene.milled(2, 60);
        check.due("stoneAt(0)", mills.stoneAt(0), 2);
        check.due("stoneAt(1)", mills.stoneAt(1), 2);
        check.due("stoneAt(3)", mills.stoneAt(3), 2);
        check.due("stoneAt(4)", mills.stoneAt(4), 60);
        check.due("stoneAt(5)", mills.stoneAt(5), 2);
        check.sentence("Returns the number.");
        check.due("stoneAt(46), the last one of 2 and 60", mills.stoneAt(46), 2);
        places(check, (at, place) -> at.stoneAt(place));
    }

    /** The exceptions that promises 23 to 25 share; the number of the call is a place. */
    private static void places(Check check, Check.CallOfNumber made) {
        check.sentence("Throws IllegalArgumentException if place is below 0");
        for (int place : new int[] {-1, -2, -256, Integer.MIN_VALUE}) {
            for (Scene scene : Scene.ALL) {
                check.refused("the call with " + place, Check.ARGUMENT, scene, at -> made.answer(at, place));
            }
        }
        check.changesNothing("the call with 0", Scene.BUSY, at -> made.answer(at, 0));
        check.changesNothing("the call with 1", Scene.BUSY, at -> made.answer(at, 1));
        check.sentence("Throws NoSuchElementException if there are not so many");
        for (Scene scene : Scene.ALL) {
            int all = scene.made().solutions();
            for (int place : new int[] {all, all + 1, all + 312, 1000000, Integer.MAX_VALUE}) {
                check.refused("the call with " + place, Check.NONE, scene, at -> made.answer(at, place));
            }
            if (all > 0) {
                check.changesNothing("the call with " + (all - 1), scene, at -> made.answer(at, all - 1));
            }
        }
    }

    private static void promise26(Check check) {
        check.heading("Promise 26");
        check.sentence("Returns how many solutions have an x that is not above a bound.");
        PellMills mills = Scene.milled(3, 2);
        long[][] rows = {{0, 0}, {1, 1}, {2, 2}, {3, 3}, {6, 3}, {7, 5}, {8, 5}, {16, 5}, {17, 6}, {18, 6}};
        for (long[] row : rows) {
            check.due("solutionsUpTo(" + row[0] + ")", mills.solutionsUpTo(row[0]), row[1]);
        }
        check.sentence("bound: 0 to 1000000000000000");
        check.due("solutionsUpTo(0)", mills.solutionsUpTo(0), 0);
        check.due("solutionsUpTo(1)", mills.solutionsUpTo(1), 1);
        check.due("solutionsUpTo(GREATEST - 1)", mills.solutionsUpTo(GREATEST - 1), 65);
        check.due("solutionsUpTo(GREATEST)", mills.solutionsUpTo(GREATEST), 65);
        check.due("solutionsUpTo(0) of none", new PellMills().solutionsUpTo(0), 0);
        check.due("solutionsUpTo(GREATEST) of none", new PellMills().solutionsUpTo(GREATEST), 0);
        check.sentence("Returns how many.");
        for (int place = 0; place < 65; place++) {
            long x = mills.xAt(place);
            boolean isTwice = place > 0 && mills.xAt(place - 1) == x;
            boolean comesAgain = place < 64 && mills.xAt(place + 1) == x;
            check.due("solutionsUpTo(" + (x - 1) + ")", mills.solutionsUpTo(x - 1), isTwice ? place - 1 : place);
            check.due("solutionsUpTo(" + x + ")", mills.solutionsUpTo(x), comesAgain ? place + 2 : place + 1);
        }
        check.sentence("Throws IllegalArgumentException if bound is out of range");
        for (long bound : new long[] {-1, GREATEST + 1, -2, 2 * GREATEST, 1L << 62, Long.MIN_VALUE, Long.MAX_VALUE}) {
            for (Scene scene : Scene.ALL) {
                check.refused("solutionsUpTo(" + bound + ")", Check.ARGUMENT, scene, at -> at.solutionsUpTo(bound));
            }
        }
    }
}
