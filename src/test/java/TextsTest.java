/** Promises 33 to 38, and what the document says of texts: orders, their faults, playing them. */
public final class TextsTest {
    // Orders of 59 characters, the last one of which lays the stone 3.
    private static final String UP_TO_LAST = "l03;t03;" + "l3;t3;".repeat(8) + "l3;";

    public static void main(String[] args) {
        Check check = new Check();
        run(check);
        check.end();
    }

    static void run(Check check) {
        textOfOrders(check);
        faults(check);
        promise33(check);
        promise34(check);
        promise35(check);
        promise36(check);
        promise37(check);
        promise38(check);
    }

    private static void textOfOrders(Check check) {
        check.heading("Texts");
        check.sentence("There is a text of at most 60 characters, initially empty: orders, each followed by \";\": "
            + "\"l\" a number (a stone is laid), \"t\" a number (it is taken away), \"m\" a number (it is milled) "
            + "or \"b\" a number (it is milled back); numbers of 1 to 2 digits, 0 ahead allowed.");
        check.due("clearText() of a new object", new PellMills().clearText(), 0);
        fault(check, "l2", 0, 1, 2);
        noFault(check, "l2;");
        fault(check, "l2;;", 3, 1, 0);
        PellMills mills = Scene.typed("l2;l13;m2;m2;m13;b2;l3;t3;");
        check.due("play() of all kinds of orders", mills.play(), 8);
        check.due("what is laid then", mills.stones(), 2);
        check.due("powerOf(2) then", mills.powerOf(2), 1);
        check.due("powerOf(13) then", mills.powerOf(13), 1);
        check.due("isLaid(3) then", mills.isLaid(3), false);
        fault(check, "l;", 0, 1, 1);
        noFault(check, "l3;");
        noFault(check, "l13;");
        fault(check, "l113;", 0, 1, 3);
        noFault(check, "l03;m03;b03;t03;");
        fault(check, "l003;", 0, 1, 3);
        PellMills ahead = Scene.typed("l02;m02;m2;b02;");
        check.due("play() with a 0 ahead", ahead.play(), 4);
        check.due("powerOf(2) then", ahead.powerOf(2), 1);
        lettersBeside(check);
        check.sentence("The text stays, whether it has a fault or not.");
        PellMills stays = Scene.typed("l2;t2;");
        stays.play();
        stays.play();
        check.due("clearText() behind play", stays.clearText(), 6);
        Scene.type(stays, "l2;t2;x");
        check.due("faultPosition()", stays.faultPosition(), 6);
        Check.outcome(stays::play);
        check.due("faultPosition() behind play that is refused", stays.faultPosition(), 6);
        check.due("clearText() behind play that is refused", stays.clearText(), 7);
    }

    private static void lettersBeside(Check check) {
        for (char letter = 32; letter <= 126; letter++) {
            PellMills laid = Scene.milled(2, 2);
            laid.type(letter);
            Scene.type(laid, letter == 'l' ? "3;" : "2;");
            boolean isOrder = "ltmb".indexOf(letter) >= 0;
            check.due("the order " + letter + " has a fault", Check.outcome(laid::faultReason), isOrder ? "throws." + Check.NONE : 1);
            laid.clearText();
            laid.type('l');
            laid.type(letter);
            laid.type(';');
            boolean isDigit = letter >= '0' && letter <= '9';
            check.due("l with " + letter + " has the fault 1", Check.outcome(laid::faultReason).equals(1), !isDigit);
            laid.clearText();
            Scene.type(laid, "m2");
            laid.type(letter);
            check.due("m2 with " + letter + " has a fault", Check.outcome(laid::faultReason), letter == ';' ? "throws." + Check.NONE : 1);
        }
    }

    private static void faults(Check check) {
        check.sentence("The fault of the text is the position, from 0, of the first character of the first order that is not possible; "
            + "its reason is 1 if it is not of this form, its \";\" included, and otherwise 2, when those ahead of it are done; "
            + "its cause is with the reason 1 at which character of the order, from 0, it breaks off (of one that the text ends "
            + "too early it is its length), and with the reason 2 which exception the call throws for it: "
            + "1 IllegalArgumentException, 2 IllegalStateException.");
        faultsOfForm(check);
        ordersThatEndTooEarly(check);
        faultsOfArgument(check);
        faultsOfState(check);
        firstOfTwoFaults(check);
        faultsWithStones(check);
    }

    private static void faultsOfForm(Check check) {
        for (String text : new String[] {"x", " l2;", ";", "L2;", "2;", "k2;", "n2;", "~", "4"}) {
            fault(check, text, 0, 1, 0);
            fault(check, "l7;" + text, 3, 1, 0);
            fault(check, "l13;m13;" + text, 8, 1, 0);
        }
        for (String text : new String[] {"l;", "l 2;", "l-2;", "l+2;", "l/;", "l:;", "lx2;", "t;", "m;", "b;", "ll2;"}) {
            fault(check, text, 0, 1, 1);
            fault(check, "l7;" + text, 3, 1, 1);
        }
        for (String text : new String[] {"l2x", "l2 ;", "l2/;", "l2:", "t2-", "m2m2;", "b2,", "l2l3;"}) {
            fault(check, text, 0, 1, 2);
            fault(check, "l7;" + text, 3, 1, 2);
        }
        for (String text : new String[] {"l013;", "l13:", "l13 ;", "l60t60;", "m999;", "b00x", "t100;", "l13x"}) {
            fault(check, text, 0, 1, 3);
            fault(check, "l7;" + text, 3, 1, 3);
        }
    }

    private static void ordersThatEndTooEarly(Check check) {
        for (String ahead : new String[] {"", "l7;", "l07;m7;t07;"}) {
            for (String letter : new String[] {"l", "t", "m", "b"}) {
                fault(check, ahead + letter, ahead.length(), 1, 1);
                fault(check, ahead + letter + "2", ahead.length(), 1, 2);
                fault(check, ahead + letter + "02", ahead.length(), 1, 3);
                fault(check, ahead + letter + "61", ahead.length(), 1, 3);
                fault(check, ahead + letter + "0", ahead.length(), 1, 2);
            }
        }
        String full = "l3;t3;".repeat(9) + "l3;";
        fault(check, full + "l", 57, 1, 1);
        fault(check, full + "l2", 57, 1, 2);
        fault(check, full + "l13", 57, 1, 3);
        noFault(check, full + "t3;");
    }

    private static void faultsOfArgument(Check check) {
        for (String letter : new String[] {"l", "t", "m", "b"}) {
            for (String number : new String[] {"0", "1", "00", "01", "61", "62", "99"}) {
                fault(check, letter + number + ";", 0, 2, 1);
                fault(check, "l7;" + letter + number + ";", 3, 2, 1);
            }
        }
        noFault(check, "l2;m2;b2;t2;");
        noFault(check, "l02;m02;b02;t02;");
        noFault(check, "l60;m60;b60;t60;");
        fault(check, "l2;l3;l5;l6;l7;l8;l10;l11;l61;", 26, 2, 1);
    }

    private static void faultsOfState(Check check) {
        fault(check, "l4;", 0, 2, 2);
        fault(check, "l09;", 0, 2, 2);
        fault(check, "l49;", 0, 2, 2);
        fault(check, "l2;l2;", 3, 2, 2);
        fault(check, "l2;l02;", 3, 2, 2);
        fault(check, "t2;", 0, 2, 2);
        fault(check, "m2;", 0, 2, 2);
        fault(check, "b2;", 0, 2, 2);
        fault(check, "l3;t2;", 3, 2, 2);
        fault(check, "l2;b2;", 3, 2, 2);
        fault(check, "l2;t2;m2;", 6, 2, 2);
        fault(check, "l2;t2;t2;", 6, 2, 2);
        fault(check, "l2;m2;b02;b2;", 10, 2, 2);
        noFault(check, "l2;m2;b02;t2;");
        noFault(check, "l46;m46;m46;m46;");
        fault(check, "l46;m46;m46;m46;m46;", 16, 2, 2);
        noFault(check, "l46;m46;m46;m46;b46;m46;");
        noFault(check, "l2;l3;l5;l6;l7;l8;l10;l11;");
        fault(check, "l2;l3;l5;l6;l7;l8;l10;l11;l12;", 26, 2, 2);
        noFault(check, "l2;l3;l5;l6;l7;l8;l10;l11;t3;l12;");
        fault(check, "l2;l3;l5;l6;l7;l8;l10;l11;l12;l61;", 26, 2, 2);
    }

    private static void firstOfTwoFaults(Check check) {
        fault(check, "l4;x", 0, 2, 2);
        fault(check, "l61;l4;", 0, 2, 1);
        fault(check, "l4;l61;", 0, 2, 2);
        fault(check, "l2;l61;t2", 3, 2, 1);
        fault(check, "xl4;", 0, 1, 0);
        fault(check, "l61x", 0, 1, 3);
        fault(check, "l4", 0, 1, 2);
        fault(check, "l1:l4;", 0, 1, 2);
    }

    private static void faultsWithStones(Check check) {
        PellMills mills = Scene.milled(13);
        Scene.type(mills, "m13;m13;");
        check.dueThrow("faultPosition() with 13 laid", Check.NONE, mills::faultPosition);
        check.due("powerOf(13) behind it", mills.powerOf(13), 0);
        mills.take(13);
        check.due("faultPosition() with 13 taken away", mills.faultPosition(), 0);
        check.due("faultCause() with 13 taken away", mills.faultCause(), 2);
        mills.undo();
        check.dueThrow("faultPosition() behind undo", Check.NONE, mills::faultPosition);
        check.due("play()", mills.play(), 2);
        check.due("xOf(13) behind play", mills.xOf(13), 649);
        PellMills greatest = Scene.at(2, 38);
        Scene.type(greatest, "m2;");
        check.dueThrow("faultPosition() one power below the greatest", Check.NONE, greatest::faultPosition);
        greatest.mill(2);
        check.due("faultPosition() at the greatest power", greatest.faultPosition(), 0);
        check.due("faultReason() at the greatest power", greatest.faultReason(), 2);
        check.due("faultCause() at the greatest power", greatest.faultCause(), 2);
        PellMills eight = Scene.FULL.made();
        eight.clearText();
        Scene.type(eight, "l11;");
        check.due("faultPosition() beside eight stones", eight.faultPosition(), 0);
        eight.take(3);
        check.dueThrow("faultPosition() beside seven stones", Check.NONE, eight::faultPosition);
    }

    private static void noFault(Check check, String text) {
        Scene scene = new Scene("an object with the text " + text, () -> Scene.typed(text));
        check.refused("faultPosition()", Check.NONE, scene, PellMills::faultPosition);
        check.refused("faultReason()", Check.NONE, scene, PellMills::faultReason);
        check.refused("faultCause()", Check.NONE, scene, PellMills::faultCause);
        check.due("play() of " + text, Scene.typed(text).play(), text.length() - text.replace(";", "").length());
    }

    private static void fault(Check check, String text, int position, int reason, int cause) {
        PellMills mills = Scene.typed(text);
        check.due("faultPosition() of " + text, mills.faultPosition(), position);
        check.due("faultReason() of " + text, mills.faultReason(), reason);
        check.due("faultCause() of " + text, mills.faultCause(), cause);
        check.refused("play()", Check.STATE, new Scene("an object with the text " + text, () -> Scene.typed(text)), PellMills::play);
    }

    private static void promise33(Check check) {
        check.heading("Promise 33");
        check.sentence("Appends a character to the text.");
        PellMills mills = Scene.typed("l2");
        check.due("faultCause() ahead of it", mills.faultCause(), 2);
        mills.type(';');
        check.dueThrow("faultCause() behind it", Check.NONE, mills::faultCause);
        check.sentence("character: 32 to 126");
        check.due("type(32)", new PellMills().type(32), 1);
        check.due("type(33)", new PellMills().type(33), 1);
        check.due("type(125)", new PellMills().type(125), 1);
        check.due("type(126)", new PellMills().type(126), 1);
        check.sentence("Returns the length of the text.");
        PellMills typed = new PellMills();
        for (int length = 1; length <= 60; length++) {
            check.due("type(65)", typed.type(65), length);
        }
        check.sentence("Throws IllegalArgumentException if character is out of range");
        for (int character : new int[] {31, 127, -1, 0, 10, 255, 256 + 65, 65536 + 109, Integer.MIN_VALUE, Integer.MAX_VALUE}) {
            for (Scene scene : Scene.ALL) {
                check.refused("type(" + character + ")", Check.ARGUMENT, scene, at -> at.type(character));
            }
        }
        check.sentence("Throws IllegalStateException if the text has 60 characters");
        check.due("type('x') as the 59th", Scene.typed("y".repeat(58)).type('x'), 59);
        check.due("type('x') as the 60th", Scene.typed("y".repeat(59)).type('x'), 60);
        check.refused("type('x') as the 61st", Check.STATE, Scene.FULL, at -> at.type('x'));
        Scene whole = new Scene("an object with a full text without a fault", () -> Scene.typed("l3;t3;".repeat(10)));
        check.refused("type('l') as the 61st", Check.STATE, whole, at -> at.type('l'));
        PellMills full = Scene.FULL.made();
        full.clearText();
        check.due("type('x') behind clearText", full.type('x'), 1);
    }

    private static void promise34(Check check) {
        check.heading("Promise 34");
        check.sentence("Empties the text.");
        PellMills mills = Scene.typed("x");
        mills.clearText();
        check.dueThrow("faultPosition() behind clearText", Check.NONE, mills::faultPosition);
        check.due("play() behind clearText", mills.play(), 0);
        Scene.type(mills, "l2;");
        check.due("play() of a text typed anew", mills.play(), 1);
        mills.clearText();
        check.due("isLaid(2) behind clearText", mills.isLaid(2), true);
        check.due("states() behind clearText", mills.states(), 2);
        mills.undo();
        mills.undo();
        check.due("clearText() behind undo", mills.clearText(), 0);
        nothingIsLeft(check);
        check.sentence("Returns the length that it had.");
        for (int length : new int[] {0, 1, 2, 59, 60}) {
            PellMills typed = Scene.typed("x".repeat(length));
            check.due("clearText() of " + length + " characters", typed.clearText(), length);
            check.due("clearText() again", typed.clearText(), 0);
        }
    }

    // What was typed ahead of clearText would make whole orders of these beginnings.
    private static void nothingIsLeft(Check check) {
        String[] before = {"l2;", "l13;", "l13;", "l13;", "x", "l2;m2;"};
        String[] after = {"l2", "l1", "l13", "l", "", "l2;m"};
        for (int i = 0; i < before.length; i++) {
            PellMills mills = Scene.typed(before[i]);
            mills.clearText();
            Scene.type(mills, after[i]);
            check.due("what is there of " + after[i] + ", typed behind " + before[i] + " and clearText()",
                Look.at(mills), Look.at(Scene.typed(after[i])));
        }
    }

    private static void promise35(Check check) {
        check.heading("Promise 35");
        check.sentence("Tells the position of the fault of the text.");
        check.due("faultPosition() of l2;t3;", Scene.typed("l2;t3;").faultPosition(), 3);
        check.sentence("Returns the position.");
        check.due("faultPosition() of x", Scene.typed("x").faultPosition(), 0);
        check.due("faultPosition() of l02;x", Scene.typed("l02;x").faultPosition(), 4);
        check.due("faultPosition() of the 60th character", Scene.typed(UP_TO_LAST + "x").faultPosition(), 59);
        check.due("faultPosition() of the 60th character", Scene.typed(UP_TO_LAST + "t").faultPosition(), 59);
        check.due("faultPosition() of the last order", Scene.typed("l3;t3;".repeat(9) + "l3;l3;").faultPosition(), 57);
        check.sentence("Throws NoSuchElementException if the text has no fault (also if it is empty)");
        noFaultAt(check, PellMills::faultPosition);
    }

    private static void promise36(Check check) {
        check.heading("Promise 36");
        check.sentence("Tells the reason of the fault of the text.");
        check.due("faultReason() of l2;t3", Scene.typed("l2;t3").faultReason(), 1);
        check.due("faultReason() of l2;t3;", Scene.typed("l2;t3;").faultReason(), 2);
        check.sentence("Returns 1 or 2.");
        check.due("faultReason() of the 60th character", Scene.typed(UP_TO_LAST + "x").faultReason(), 1);
        check.due("faultReason() of the last order", Scene.typed("l3;t3;".repeat(9) + "l3;l3;").faultReason(), 2);
        check.sentence("Throws NoSuchElementException if the text has no fault");
        noFaultAt(check, PellMills::faultReason);
    }

    private static void promise37(Check check) {
        check.heading("Promise 37");
        check.sentence("Tells the cause of the fault of the text.");
        check.due("faultCause() of l2;x", Scene.typed("l2;x").faultCause(), 0);
        check.due("faultCause() of l2;t33", Scene.typed("l2;t33").faultCause(), 3);
        check.sentence("Returns the cause, as told.");
        check.due("faultCause() of l2;t61;", Scene.typed("l2;t61;").faultCause(), 1);
        check.due("faultCause() of l2;t60;", Scene.typed("l2;t60;").faultCause(), 2);
        check.due("faultCause() of the 60th character", Scene.typed(UP_TO_LAST + "x").faultCause(), 0);
        check.due("faultCause() of the 60th character", Scene.typed(UP_TO_LAST + "t").faultCause(), 1);
        check.sentence("Throws NoSuchElementException if the text has no fault");
        noFaultAt(check, PellMills::faultCause);
    }

    /** Without a fault: no text, one order, 60 characters, a text on a history and a snapshot. */
    private static void noFaultAt(Check check, Check.CallOn made) {
        check.refused("the call", Check.NONE, Scene.FRESH, made);
        check.refused("the call", Check.NONE, new Scene("an object with the text l2;", () -> Scene.typed("l2;")), made);
        Scene whole = new Scene("an object with a full text", () -> Scene.typed("l3;t3;".repeat(10)));
        check.refused("the call", Check.NONE, whole, made);
        check.refused("the call", Check.NONE, new Scene("an object with stones and an order", TextsTest::withoutFault), made);
        PellMills cleared = Scene.typed("x");
        cleared.clearText();
        check.dueThrow("the call behind clearText", Check.NONE, () -> made.answer(cleared));
        check.changesNothing("the call", Scene.BUSY, made);
        check.changesNothing("the call", Scene.FULL, made);
    }

    private static PellMills withoutFault() {
        PellMills mills = Scene.BUSY.made();
        mills.clearText();
        Scene.type(mills, "l5;m05;b2;m7;t13;");
        return mills;
    }

    private static void promise38(Check check) {
        check.heading("Promise 38");
        check.sentence("Does all orders of the text, which stays.");
        PellMills mills = withoutFault();
        PellMills byCalls = Scene.BUSY.made();
        byCalls.lay(5);
        byCalls.mill(5);
        byCalls.millBack(2);
        byCalls.mill(7);
        byCalls.take(13);
        mills.play();
        check.due("what is there behind play", Look.atStones(mills), Look.atStones(byCalls));
        check.due("clearText() behind play", mills.clearText(), 17);
        check.sentence("They are one change, also if there are none.");
        PellMills none = new PellMills();
        none.play();
        check.due("states() behind play of no text", none.states(), 1);
        Scene.type(none, "l2;m2;m2;");
        none.play();
        check.due("states() behind play of three orders", none.states(), 2);
        check.due("undo() of it", none.undo(), 1);
        check.due("stones() ahead of it", none.stones(), 0);
        check.due("milled() ahead of it", none.milled(), 0);
        check.due("undo() of no text", none.undo(), 0);
        PellMills dropped = Scene.milled(2, 3, 5, 6);
        dropped.play();
        check.due("states() behind play as the fifth change", dropped.states(), 4);
        for (int left = 3; left >= 0; left--) {
            dropped.undo();
        }
        check.due("stones() ahead of four changes", dropped.stones(), 1);
        check.sentence("Returns how many there are in it.");
        check.due("play() of no text", new PellMills().play(), 0);
        check.due("play() of l2;", Scene.typed("l2;").play(), 1);
        check.due("play() of l2;t02;", Scene.typed("l2;t02;").play(), 2);
        PellMills most = Scene.typed("l3;t3;".repeat(10));
        check.due("play() of 60 characters", most.play(), 20);
        check.due("play() of them again", most.play(), 20);
        check.due("play() of orders up to the 59th character", Scene.typed(UP_TO_LAST).play(), 19);
        check.sentence("Throws IllegalStateException if the text has a fault");
        check.refused("play()", Check.STATE, Scene.BUSY, PellMills::play);
        check.refused("play()", Check.STATE, Scene.FULL, PellMills::play);
        check.refused("play()", Check.STATE, new Scene("a fault at the 60th character", () -> Scene.typed(UP_TO_LAST + "x")), PellMills::play);
        PellMills twice = Scene.typed("l2;");
        twice.play();
        check.dueThrow("play() of l2; again", Check.STATE, twice::play);
        check.due("states() then", twice.states(), 1);
        twice.undo();
        check.due("play() of l2; behind undo", twice.play(), 1);
    }
}
