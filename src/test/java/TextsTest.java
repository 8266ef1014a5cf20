/** Promises 33 to 38: texts of orders, their faults, playing them. */
public final class TextsTest {
    public static void main(String[] args) {
        Check check = new Check();
        checkTyping(check);
        checkNoFault(check);
        checkFaultsOfForm(check);
        checkFaultsOfDoing(check);
        checkFaultsWithStones(check);
        checkPlaying(check);
        checkPlayIsOneChange(check);
        check.end();
    }

    private static void checkTyping(Check check) {
        PellMills mills = new PellMills();
        for (int character : new int[] {31, 127, -1, 0, 10, 255, 65535 + 109, Integer.MIN_VALUE, Integer.MAX_VALUE}) {
            check.dueThrow("promise 33: type(" + character + ")", Check.ARGUMENT, () -> mills.type(character));
        }
        check.due("promise 33: type(32)", mills.type(32), 1);
        check.due("promise 33: type(126)", mills.type(126), 2);
        for (int length = 3; length <= 60; length++) {
            check.due("promise 33: type(65)", mills.type(65), length);
        }
        check.dueThrow("promise 33: a character too many", Check.STATE, () -> mills.type(65));
        check.dueThrow("promise 33: a wrong character too many", Check.ARGUMENT, () -> mills.type(31));
        check.due("promise 34: clearText()", mills.clearText(), 60);
        check.due("promise 34: clearText() again", mills.clearText(), 0);
        check.due("promise 33: type(65) after clearText", mills.type(65), 1);
        check.due("typing is no change", mills.states(), 0);
    }

    private static void checkNoFault(Check check) {
        for (String text : new String[] {"", "l2;", "l02;", "l60;", "l2;m2;m2;b2;t2;", "l2;t2;l2;t2;"}) {
            PellMills mills = new PellMills();
            Check.type(mills, text);
            check.dueThrow("promise 35: faultPosition() of " + text, Check.NONE, mills::faultPosition);
            check.dueThrow("promise 36: faultReason() of " + text, Check.NONE, mills::faultReason);
            check.dueThrow("promise 37: faultCause() of " + text, Check.NONE, mills::faultCause);
        }
    }

    private static void checkFaultsOfForm(Check check) {
        checkFault(check, "x", 0, 1, 0);
        checkFault(check, " l2;", 0, 1, 0);
        checkFault(check, ";", 0, 1, 0);
        checkFault(check, "L2;", 0, 1, 0);
        checkFault(check, "2;", 0, 1, 0);
        checkFault(check, "l", 0, 1, 1);
        checkFault(check, "l;", 0, 1, 1);
        checkFault(check, "l 2;", 0, 1, 1);
        checkFault(check, "l-2;", 0, 1, 1);
        checkFault(check, "l/;", 0, 1, 1);
        checkFault(check, "l:;", 0, 1, 1);
        checkFault(check, "lx2;", 0, 1, 1);
        checkFault(check, "l2", 0, 1, 2);
        checkFault(check, "l2x", 0, 1, 2);
        checkFault(check, "l2 ;", 0, 1, 2);
        checkFault(check, "l13", 0, 1, 3);
        checkFault(check, "l013;", 0, 1, 3);
        checkFault(check, "l13:", 0, 1, 3);
        checkFault(check, "m99", 0, 1, 3);
        checkFault(check, "l2;;", 3, 1, 0);
        checkFault(check, "l2;m", 3, 1, 1);
        checkFault(check, "l2;m2;b", 6, 1, 1);
        checkFault(check, "l2;l13;t2", 7, 1, 2);
    }

    private static void checkFaultsOfDoing(Check check) {
        checkFault(check, "l0;", 0, 2, 1);
        checkFault(check, "l00;", 0, 2, 1);
        checkFault(check, "l1;", 0, 2, 1);
        checkFault(check, "t61;", 0, 2, 1);
        checkFault(check, "m99;", 0, 2, 1);
        checkFault(check, "b01;", 0, 2, 1);
        checkFault(check, "l4;", 0, 2, 2);
        checkFault(check, "l2;l2;", 3, 2, 2);
        checkFault(check, "t2;", 0, 2, 2);
        checkFault(check, "m2;", 0, 2, 2);
        checkFault(check, "b2;", 0, 2, 2);
        checkFault(check, "l2;b2;", 3, 2, 2);
        checkFault(check, "l2;t2;m2;", 6, 2, 2);
        checkFault(check, "l2;m2;b02;b2;", 10, 2, 2);
        checkFault(check, "l46;m46;m46;m46;m46;", 16, 2, 2);
        checkFault(check, "l2;l3;l5;l6;l7;l8;l10;l11;l12;", 26, 2, 2);
        checkFault(check, "l4;x", 0, 2, 2);
        checkFault(check, "l2;l61;t2", 3, 2, 1);
    }

    private static void checkFault(Check check, String text, int position, int reason, int cause) {
        PellMills mills = new PellMills();
        Check.type(mills, text);
        check.due("promise 35: faultPosition() of " + text, mills.faultPosition(), position);
        check.due("promise 36: faultReason() of " + text, mills.faultReason(), reason);
        check.due("promise 37: faultCause() of " + text, mills.faultCause(), cause);
        check.dueThrow("promise 38: play() of " + text, Check.STATE, mills::play);
        check.due("promise 38: stones() after " + text, mills.stones(), 0);
        check.due("promise 38: milled() after " + text, mills.milled(), 0);
        check.due("promise 38: states() after " + text, mills.states(), 0);
        check.due("promise 38: the text stays, " + text, mills.clearText(), text.length());
    }

    private static void checkFaultsWithStones(Check check) {
        PellMills mills = Check.milled(13);
        Check.type(mills, "m13;m13;");
        check.dueThrow("promise 35: faultPosition() with 13 laid", Check.NONE, mills::faultPosition);
        check.due("promise 16: powerOf(13) after looking", mills.powerOf(13), 0);
        mills.take(13);
        check.due("promise 35: faultPosition() with 13 taken", mills.faultPosition(), 0);
        mills.undo();
        check.dueThrow("promise 35: faultPosition() after undo", Check.NONE, mills::faultPosition);
        check.due("promise 38: play()", mills.play(), 2);
        check.due("promise 17: xOf(13) after play", mills.xOf(13), 649);
    }

    private static void checkPlaying(Check check) {
        PellMills mills = Check.milled(7, 7);
        Check.type(mills, "l13;l2;m2;m02;b2;m13;t7;");
        check.due("promise 38: play()", mills.play(), 7);
        check.due("promise 38: stones()", mills.stones(), 2);
        check.due("promise 38: powerOf(2)", mills.powerOf(2), 1);
        check.due("promise 38: powerOf(13)", mills.powerOf(13), 1);
        check.due("promise 38: milled()", mills.milled(), 4);
        check.due("promise 38: isLaid(7)", mills.isLaid(7), false);
        check.dueThrow("promise 38: play() again", Check.STATE, mills::play);
        check.due("promise 35: faultPosition() after play", mills.faultPosition(), 0);
        check.due("promise 38: the text stays", mills.clearText(), 24);
        Check.type(mills, "l3;t3;l3;t3;l3;t3;l3;t3;l3;t3;l3;t3;l3;t3;l3;t3;l3;t3;l3;t3;");
        check.due("promise 38: play() of a full text", mills.play(), 20);
        check.due("promise 38: play() of it again", mills.play(), 20);
    }

    private static void checkPlayIsOneChange(Check check) {
        PellMills mills = new PellMills();
        check.due("promise 38: play() of an empty text", mills.play(), 0);
        check.due("promise 38: states() after it", mills.states(), 1);
        Check.type(mills, "l2;m2;m2;");
        check.due("promise 38: play()", mills.play(), 3);
        check.due("promise 38: states() is one more", mills.states(), 2);
        check.due("promise 38: undo()", mills.undo(), 1);
        check.due("promise 38: stones() before play", mills.stones(), 0);
        check.due("promise 38: milled() before play", mills.milled(), 0);
        check.due("promise 38: undo() of the empty one", mills.undo(), 0);
        mills.keep();
        mills.play();
        check.due("promise 38: goBack() leaves the snapshot before play", mills.goBack(), 0);
    }
}
