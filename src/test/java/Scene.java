/** Objects at which calls are tried: each one made anew by the same calls. */
record Scene(String name, Maker maker) {
    interface Maker {
        PellMills made();
    }

    static final Scene FRESH = new Scene("a new object", PellMills::new);

    static final Scene BUSY = new Scene("an object with a full history, a snapshot and a text", Scene::busy);

    static final Scene FULL = new Scene("an object with eight stones and a full text", Scene::full);

    static final Scene[] ALL = {FRESH, BUSY, FULL};

    PellMills made() {
        return maker.made();
    }

    /** A stone for each number at its first place, milled once for each further one. */
    static PellMills milled(int... numbers) {
        PellMills mills = new PellMills();
        for (int number : numbers) {
            if (!mills.isLaid(number)) {
                mills.lay(number);
            } else {
                mills.mill(number);
            }
        }
        return mills;
    }

    static PellMills at(int number, int power) {
        PellMills mills = new PellMills();
        mills.lay(number);
        for (int milled = 0; milled < power; milled++) {
            mills.mill(number);
        }
        return mills;
    }

    static PellMills typed(String text) {
        PellMills mills = new PellMills();
        type(mills, text);
        return mills;
    }

    static void type(PellMills mills, String text) {
        for (int i = 0; i < text.length(); i++) {
            mills.type(text.charAt(i));
        }
    }

    // 2 stands at the power 3, 7 at 1, 13 at 0; the snapshot has 3 at 1; the history goes back to 2, 3 and 7 at 1.
    private static PellMills busy() {
        PellMills mills = milled(3, 3);
        mills.keep();
        mills.lay(2);
        mills.mill(2);
        mills.lay(7);
        mills.mill(7);
        mills.mill(2);
        mills.mill(2);
        mills.take(3);
        mills.lay(13);
        type(mills, "l5;m05;b2;x");
        return mills;
    }

    // Each of the states of the history, the present one and the snapshot is another one.
    private static PellMills full() {
        PellMills mills = milled(60, 60, 2, 2, 2, 3, 5, 6);
        mills.keep();
        mills.lay(7);
        mills.lay(8);
        mills.lay(10);
        mills.mill(10);
        type(mills, "m2;m2;b2;m60;t7;l11;t10;m03;m3;b03;m02;t5;l53;m53;b53;t53;m8");
        return mills;
    }

    /** How many powers of a number there are; of a program that finds too many, no more than a test can go through. */
    static int greatestPower(int number) {
        return Math.min(milled(number).solutions(), 50);
    }

    /** Numbers from 2 to 60 that are squares. */
    static final int[] SQUARES = {4, 9, 16, 25, 36, 49};

    static boolean isSquare(int number) {
        for (int square : SQUARES) {
            if (square == number) {
                return true;
            }
        }
        return false;
    }
}
