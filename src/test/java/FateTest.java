/** Promises 22 to 29, sentence by sentence: what became of messages. */
public final class FateTest {
    private static final String BILL = "Returns 0 if it was not delivered, or is wrong; 50 by a courier; otherwise "
            + "2 for each signal of its text, times 1 more than its rank.";

    public static void main(String[] args) {
        Check.runAll(FateTest.class);
    }

    private interface OfMessage {
        Object ask(ChappeLine chappe, int message);
    }

    private static void refusesNoMessage(OfMessage call) {
        ChappeLine none = Check.lineOn(9, 0, 4);
        Check.refuses("none at all", Check.INDEX, () -> call.ask(none, 0));
        ChappeLine chappe = Check.lineOn(9, 0, 4);
        Check.send(chappe, 0, 0, 7);
        Check.send(chappe, 0, 0, 7);
        chappe.pass(100);
        for (int message : Check.outside(0, 1)) {
            Check.refuses("message " + message, Check.INDEX, () -> call.ask(chappe, message));
        }
    }

    // ---- 22: state

    static void stateOfEach() {
        ChappeLine chappe = Check.lineOn(9, 0, 4);
        Check.send(chappe, 0, 0, 1);
        Check.send(chappe, 0, 0, 1);
        Check.sentence(22, "Returns how a message is.");
        chappe.pass(1);
        Check.due("the first one is put", chappe.state(0), 'p');
        Check.due("the second one waits", chappe.state(1), 'w');
        chappe.pass(300);
        Check.due("the first one came", chappe.state(0), 'd');
        Check.due("the second one too", chappe.state(1), 'd');
    }

    static void stateLetters() {
        ChappeLine chappe = Check.lineOn(9, 0, 4);
        Check.sentence(22, "Returns 'w' it waits and was not begun, 'b' it waits and was broken off, "
                + "'p' it is being put, 'l' its 'end' was put, and not delivered yet, 'c' a courier has it, "
                + "'d' delivered.");
        Check.send(chappe, 0, 0, 1);
        Check.due("waits", chappe.state(0), 'w');
        chappe.pass(1);
        Check.due("its begin was put", chappe.state(0), 'p');
        Check.send(chappe, 0, 3, 1);
        chappe.pass(5);
        Check.due("not broken off yet", chappe.state(0), 'p');
        chappe.pass(1);
        Check.due("its suspend was put", chappe.state(0), 'b');
        Check.due("the other one was not begun", chappe.state(1), 'w');
        // The second tower sets the begin from 6 to 11, and takes the suspend in 12.
        chappe.pass(5);
        Check.due("not begun yet", chappe.state(1), 'w');
        chappe.pass(1);
        Check.due("begun", chappe.state(1), 'p');
        for (int i = 0; i < 50 && chappe.logged(0) < 6; i++) {
            Check.due("broken off all the time", chappe.state(0), 'b');
            chappe.pass(1);
        }
        Check.due("its go on was put", chappe.inLog(0, 5, 'r'), 60);
        Check.due("being put again", chappe.state(0), 'p');
        Check.due("its end was put, and not delivered", chappe.state(1), 'l');
        for (int i = 0; i < 50 && chappe.logged(0) < 8; i++) {
            Check.due("no end yet", chappe.state(0), 'p');
            chappe.pass(1);
        }
        for (int i = 0; i < 50 && chappe.state(0) == 'l'; i++) {
            Check.due("not delivered", chappe.shows(1) == 63, false);
            chappe.pass(1);
        }
        Check.due("shown", chappe.shows(1), 63);
        Check.due("delivered", chappe.state(0), 'd');
        chappe.pass(300);
        Check.due("delivered for good", chappe.state(0), 'd');
    }

    static void stateWithACourier() {
        ChappeLine chappe = Check.lineOn(9, 0, 1);
        Check.send(chappe, 0, 0, 1);
        chappe.setFog(0, 9);
        Check.sentence(22, "Returns how a message is.");
        Check.due("waits", chappe.state(0), 'w');
        chappe.courier(0);
        Check.due("a courier has it", chappe.state(0), 'c');
        chappe.setFog(0, 0);
        chappe.pass(30);
        Check.due("a courier still has it", chappe.state(0), 'c');
        chappe.pass(1);
        Check.due("delivered", chappe.state(0), 'd');
    }

    static void stateOfNone() {
        Check.sentence(22, "Throws `IndexOutOfBoundsException` if there is no such message");
        refusesNoMessage((chappe, message) -> chappe.state(message));
    }

    // ---- 23: came

    static void cameOneByOne() {
        ChappeLine chappe = Check.lineOn(9, 0, 4);
        Check.send(chappe, 0, 0, 59, 59);
        Check.sentence(23, "Returns how many signals of the text of a message were delivered.");
        // Taken by the second tower in 6, 12 and 16, which sets 5, 2 and 1 minutes, and so on.
        Check.due("none", chappe.came(0), 0);
        chappe.pass(12);
        Check.due("a begin is not of the text", chappe.came(0), 0);
        Check.due("it was delivered", chappe.shows(1), 61);
        chappe.pass(2);
        Check.due("the first one is set", chappe.came(0), 0);
        chappe.pass(1);
        Check.due("the first one", chappe.came(0), 1);
        chappe.pass(1);
        Check.due("the second one is set", chappe.came(0), 1);
        chappe.pass(1);
        Check.due("the second one", chappe.came(0), 2);
        chappe.pass(100);
        Check.due("an end is not of the text", chappe.came(0), 2);
    }

    static void cameNumber() {
        ChappeLine chappe = Check.lineOn(9, 0, 4);
        Check.send(chappe, 0, 0, 1);
        Check.send(chappe, 0, 0, 1, 2, 3, 4, 5, 6, 7, 8, 9, 10, 11, 12);
        Check.send(chappe, 0, 0, 1, 2, 3);
        Check.sentence(23, "Returns the number of signals.");
        chappe.pass(200);
        Check.due("the fewest", chappe.came(0), 1);
        Check.due("the most", chappe.came(1), 12);
        Check.due("of this one", chappe.came(2), 3);
    }

    static void cameByCourier() {
        ChappeLine chappe = Check.lineOn(9, 0, 1);
        Check.send(chappe, 0, 0, 1, 2, 3);
        chappe.setFog(0, 9);
        chappe.courier(0);
        Check.sentence(23, "Returns how many signals of the text of a message were delivered.");
        chappe.pass(30);
        Check.due("none on the way", chappe.came(0), 0);
        chappe.pass(1);
        Check.due("all at once", chappe.came(0), 3);
    }

    static void cameOfNone() {
        Check.sentence(23, "Throws `IndexOutOfBoundsException` if there is no such message");
        refusesNoMessage((chappe, message) -> chappe.came(message));
    }

    // ---- 24: signalAt

    static void signalAsDelivered() {
        ChappeLine chappe = Check.lineOn(9, 0, 4, 8);
        chappe.bribe(1, 10, 30);
        Check.send(chappe, 0, 0, 10, 10);
        chappe.pass(100);
        Check.sentence(24, "Returns a signal of a message as it was delivered.");
        Check.due("changed on the way", chappe.signalAt(0, 0), 30);
        Check.due("not changed", chappe.signalAt(0, 1), 10);
    }

    static void signalByIndex() {
        ChappeLine chappe = Check.lineOn(9, 0, 4);
        Check.send(chappe, 0, 0, 1, 2, 3, 4, 5, 6, 7, 8, 9, 10, 11, 12);
        chappe.pass(200);
        Check.sentence(24, "`index`: the index, from 0");
        Check.due("the first one", chappe.signalAt(0, 0), 1);
        Check.due("the second one", chappe.signalAt(0, 1), 2);
        Check.due("the last one", chappe.signalAt(0, 11), 12);
    }

    static void signalOfEachMessage() {
        ChappeLine chappe = Check.lineOn(9, 0, 4);
        Check.send(chappe, 0, 0, 0);
        Check.send(chappe, 0, 0, 59);
        chappe.pass(200);
        Check.sentence(24, "Returns the signal.");
        Check.due("the least", chappe.signalAt(0, 0), 0);
        Check.due("the greatest", chappe.signalAt(1, 0), 59);
    }

    static void signalNotDelivered() {
        ChappeLine chappe = Check.lineOn(9, 0, 4);
        Check.send(chappe, 0, 0, 59, 58, 57);
        Check.sentence(24, "Throws `IndexOutOfBoundsException` if there is no such message, "
                + "or no such signal that was delivered");
        refusesNoMessage((other, message) -> other.signalAt(message, 0));
        Check.refuses("none yet", Check.INDEX, () -> chappe.signalAt(0, 0));
        Check.passWhile(chappe, () -> chappe.came(0) < 1);
        Check.due("the first one", chappe.signalAt(0, 0), 59);
        Check.refuses("the second one is on its way", Check.INDEX, () -> chappe.signalAt(0, 1));
        chappe.pass(100);
        Check.due("the third one", chappe.signalAt(0, 2), 57);
        for (int index : Check.outside(0, 2)) {
            Check.refuses("index " + index, Check.INDEX, () -> chappe.signalAt(0, index));
        }
        chappe.setFog(1, 9);
        Check.send(chappe, 0, 0, 1);
        chappe.courier(1);
        Check.refuses("with a courier", Check.INDEX, () -> chappe.signalAt(1, 0));
        chappe.pass(121);
        Check.due("by courier", chappe.signalAt(1, 0), 1);
        Check.refuses("no more by courier", Check.INDEX, () -> chappe.signalAt(1, 1));
    }

    // ---- 25: meaning

    static void meaningOfADeliveredSignal() {
        ChappeLine chappe = Check.lineOn(9, 0, 4);
        chappe.bribe(1, 8, 9);
        Check.send(chappe, 0, 0, 8);
        chappe.pass(100);
        chappe.book(0);
        chappe.setWord(0, 8, 80);
        chappe.setWord(0, 9, 90);
        Check.sentence(25, "Returns the word that a delivered signal of a message means.");
        Check.due("as it came", chappe.meaning(0, 0), 90);
    }

    static void meaningByIndex() {
        ChappeLine chappe = Check.lineOn(9, 0, 4);
        Check.send(chappe, 0, 0, 1, 2, 3, 4, 5, 6, 7, 8, 9, 10, 11, 12);
        chappe.pass(200);
        chappe.book(0);
        for (int signal = 1; signal <= 12; signal++) {
            chappe.setWord(0, signal, 100 * signal);
        }
        Check.sentence(25, "`index`: the index, from 0");
        Check.due("the first one", chappe.meaning(0, 0), 100);
        Check.due("the second one", chappe.meaning(0, 1), 200);
        Check.due("the last one", chappe.meaning(0, 11), 1200);
    }

    static void meaningIsAWord() {
        ChappeLine chappe = Check.lineOn(9, 0, 4);
        chappe.book(0);
        chappe.setWord(0, 0, 9999);
        chappe.setWord(0, 59, 0);
        Check.send(chappe, 0, 0, 0, 59);
        chappe.setFog(0, 5);
        chappe.courier(0);
        chappe.pass(121);
        Check.sentence(25, "Returns the word.");
        Check.due("of the least signal, by courier", chappe.meaning(0, 0), 9999);
        Check.due("of the greatest signal", chappe.meaning(0, 1), 0);
    }

    static void meaningNotDelivered() {
        ChappeLine chappe = Check.lineOn(9, 0, 4);
        chappe.book(0);
        chappe.setWord(0, 59, 1);
        chappe.setWord(0, 58, 2);
        Check.send(chappe, 0, 0, 59, 58);
        Check.sentence(25, "Throws `IndexOutOfBoundsException` if there is no such message, "
                + "or no such signal that was delivered");
        refusesNoMessage((other, message) -> other.meaning(message, 0));
        Check.refuses("none yet", Check.INDEX, () -> chappe.meaning(0, 0));
        Check.passWhile(chappe, () -> chappe.came(0) < 1);
        Check.due("the first one", chappe.meaning(0, 0), 1);
        Check.refuses("the second one is on its way", Check.INDEX, () -> chappe.meaning(0, 1));
        chappe.pass(100);
        Check.due("the second one", chappe.meaning(0, 1), 2);
        for (int index : Check.outside(0, 1)) {
            Check.refuses("index " + index, Check.INDEX, () -> chappe.meaning(0, index));
        }
    }

    static void meaningWithoutBookOrWord() {
        ChappeLine chappe = Check.lineOn(9, 0, 4);
        Check.send(chappe, 0, 0, 7);
        chappe.pass(100);
        Check.sentence(25, "Throws `NoSuchElementException` if it has no book, or this has no word for the signal");
        Check.refuses("no book", Check.NO_ELEMENT, () -> chappe.meaning(0, 0));
        chappe.book(1);
        chappe.setWord(0, 7, 70);
        Check.refuses("a book of a later day", Check.NO_ELEMENT, () -> chappe.meaning(0, 0));
        chappe.book(0);
        Check.refuses("no word", Check.NO_ELEMENT, () -> chappe.meaning(0, 0));
        chappe.setWord(1, 6, 60);
        chappe.setWord(1, 8, 80);
        Check.refuses("other words", Check.NO_ELEMENT, () -> chappe.meaning(0, 0));
        chappe.setWord(1, 7, 0);
        Check.due("a word", chappe.meaning(0, 0), 0);
        chappe.book(0);
        Check.refuses("its book is a newer one, without the word", Check.NO_ELEMENT, () -> chappe.meaning(0, 0));
    }

    // ---- 26: deliveredAt

    static void deliveredInAMinute() {
        ChappeLine chappe = Check.lineOn(9, 0, 4);
        chappe.pass(100);
        Check.send(chappe, 0, 0, 59);
        Check.sentence(26, "Returns in which minute a message was delivered.");
        // Begin is taken in 106, 59 in 112 and end in 115; 59 and 63 differ in one bit.
        Check.due("none up to 115", Check.passUntil(chappe, 116), 0);
        Check.due("in 116", chappe.pass(1), 1);
        Check.due("when", chappe.deliveredAt(0), 116);
        chappe.pass(100);
        Check.due("when, asked later", chappe.deliveredAt(0), 116);
    }

    static void deliveredMinutes() {
        ChappeLine chappe = Check.lineOn(9, 0, 1);
        Check.send(chappe, 0, 0, 59);
        Check.send(chappe, 0, 0, 59);
        chappe.setFog(0, 5);
        chappe.courier(0);
        chappe.setFog(0, 4);
        chappe.pass(100);
        Check.sentence(26, "Returns the minute.");
        Check.due("by courier", chappe.deliveredAt(0), 30);
        Check.due("by arms", chappe.deliveredAt(1), 16);
    }

    static void deliveredAtOfNone() {
        Check.sentence(26, "Throws `IndexOutOfBoundsException` if there is no such message");
        refusesNoMessage((chappe, message) -> chappe.deliveredAt(message));
    }

    static void notDeliveredYet() {
        ChappeLine chappe = Check.lineOn(9, 0, 4);
        Check.send(chappe, 0, 0, 59);
        Check.sentence(26, "Throws `NoSuchElementException` if it was not yet");
        for (int i = 0; i < 17; i++) {
            Check.refuses("ahead of " + i, Check.NO_ELEMENT, () -> chappe.deliveredAt(0));
            chappe.pass(1);
        }
        Check.due("delivered", chappe.deliveredAt(0), 16);
        chappe.breakDown(0, true);
        Check.send(chappe, 0, 0, 59);
        chappe.courier(1);
        chappe.pass(120);
        Check.refuses("with a courier", Check.NO_ELEMENT, () -> chappe.deliveredAt(1));
        chappe.pass(1);
        Check.due("delivered by courier", chappe.deliveredAt(1), 137);
    }

    // ---- 27: isRight

    static void rightMessage() {
        ChappeLine chappe = Check.lineOn(9, 0, 4);
        chappe.bribe(1, 8, 9);
        Check.send(chappe, 0, 0, 7);
        Check.send(chappe, 0, 0, 7, 8);
        chappe.pass(100);
        Check.sentence(27, "Returns whether a message that was delivered is right.");
        Check.due("the first one", chappe.isRight(0), true);
        Check.due("its last signal is wrong", chappe.isRight(1), false);
    }

    static void rightTrue() {
        ChappeLine chappe = Check.lineOn(9, 0, 4);
        chappe.bribe(0, 7, 8);
        Check.send(chappe, 0, 0, 7, 7, 7);
        chappe.pass(100);
        Check.send(chappe, 0, 0, 7, 7, 7);
        chappe.pass(100);
        Check.sentence(27, "Returns true if it is.");
        Check.due("its first signal is wrong", chappe.isRight(0), false);
        Check.due("right", chappe.isRight(1), true);
    }

    static void rightOfNone() {
        Check.sentence(27, "Throws `IndexOutOfBoundsException` if there is no such message");
        refusesNoMessage((chappe, message) -> chappe.isRight(message));
    }

    static void rightNotDelivered() {
        ChappeLine chappe = Check.lineOn(9, 0, 4);
        Check.send(chappe, 0, 0, 59);
        Check.sentence(27, "Throws `NoSuchElementException` if it was not delivered yet");
        for (int i = 0; i < 17; i++) {
            Check.refuses("ahead of " + i, Check.NO_ELEMENT, () -> chappe.isRight(0));
            chappe.pass(1);
        }
        Check.due("delivered", chappe.isRight(0), true);
        chappe.breakDown(0, true);
        Check.send(chappe, 0, 0, 59);
        chappe.courier(1);
        chappe.pass(120);
        Check.refuses("with a courier", Check.NO_ELEMENT, () -> chappe.isRight(1));
        chappe.pass(1);
        Check.due("delivered by courier", chappe.isRight(1), true);
    }

    // ---- 28: blame

    static void blameByLogsAsTheyAre() {
        ChappeLine chappe = Check.lineOn(9, 0, 4, 8);
        chappe.bribe(0, 59, 58);
        Check.send(chappe, 0, 0, 59);
        Check.sentence(28, "Returns the tower that is to blame for a message, "
                + "by the signals that stand in logs now.");
        for (int i = 0; i < 7; i++) {
            Check.refuses("ahead of " + i, Check.NO_ELEMENT, () -> chappe.blame(0));
            chappe.pass(1);
        }
        Check.due("as soon as it stands in the log", chappe.blame(0), 0);
        Check.due("nothing came yet", chappe.came(0), 0);
        Check.due("it is being put", chappe.state(0), 'p');
    }

    static void blameNumber() {
        ChappeLine chappe = new ChappeLine();
        chappe.tower(20, 9);
        Check.addLine(chappe, 9, 8, 4, 0);
        chappe.bribe(3, 30, 31);
        Check.send(chappe, 0, 0, 30);
        chappe.pass(100);
        Check.sentence(28, "Returns the number of the tower.");
        Check.due("not its place in the line", chappe.blame(0), 3);
    }

    static void blameOfNone() {
        Check.sentence(28, "Throws `IndexOutOfBoundsException` if there is no such message");
        refusesNoMessage((chappe, message) -> chappe.blame(message));
    }

    static void blameOfNobody() {
        ChappeLine chappe = Check.lineOn(9, 0, 4);
        Check.send(chappe, 0, 0, 30);
        Check.sentence(28, "Throws `NoSuchElementException` if none is");
        Check.refuses("it waits", Check.NO_ELEMENT, () -> chappe.blame(0));
        chappe.pass(1);
        Check.refuses("it is being put", Check.NO_ELEMENT, () -> chappe.blame(0));
        chappe.pass(100);
        Check.refuses("right", Check.NO_ELEMENT, () -> chappe.blame(0));
        chappe.bribe(0, 30, 30);
        Check.send(chappe, 0, 0, 30);
        chappe.pass(100);
        Check.refuses("a bribe of the same signal", Check.NO_ELEMENT, () -> chappe.blame(1));
        chappe.setFog(2, 9);
        Check.send(chappe, 0, 0, 30);
        chappe.courier(2);
        Check.refuses("with a courier", Check.NO_ELEMENT, () -> chappe.blame(2));
        chappe.pass(121);
        Check.refuses("by courier", Check.NO_ELEMENT, () -> chappe.blame(2));
    }

    // ---- 29: bill

    static void billOfAMessage() {
        ChappeLine chappe = Check.lineOn(9, 0, 4);
        Check.send(chappe, 0, 0, 7, 8);
        Check.send(chappe, 0, 1, 7);
        chappe.pass(100);
        Check.sentence(29, "Returns what a message costs.");
        Check.due("two signals", chappe.bill(0), 4);
        Check.due("one signal of rank 1", chappe.bill(1), 4);
    }

    static void billByRankAndLength() {
        ChappeLine chappe = Check.lineOn(9, 0, 4);
        for (int rank = 0; rank < 4; rank++) {
            Check.send(chappe, 0, rank, 59);
            Check.send(chappe, 0, rank, 1, 2, 3, 4, 5, 6, 7, 8, 9, 10, 11, 12);
        }
        Check.sentence(29, BILL);
        Check.due("it waits", chappe.bill(0), 0);
        Check.passWhile(chappe, () -> chappe.state(6) != 'l');
        Check.due("its end is on its way", chappe.bill(6), 0);
        Check.passUntil(chappe, 600);
        for (int rank = 0; rank < 4; rank++) {
            Check.due("one of rank " + rank, chappe.bill(2 * rank), 2 * (rank + 1));
            Check.due("twelve of rank " + rank, chappe.bill(2 * rank + 1), 24 * (rank + 1));
        }
    }

    static void billOfWrongOnesAndCouriers() {
        ChappeLine chappe = Check.lineOn(9, 0, 4);
        chappe.bribe(0, 9, 8);
        Check.send(chappe, 0, 3, 9);
        chappe.pass(100);
        Check.sentence(29, BILL);
        Check.due("wrong", chappe.bill(0), 0);
        chappe.setFog(1, 9);
        Check.send(chappe, 0, 3, 1, 2, 3, 4, 5, 6, 7, 8, 9, 10, 11, 12);
        Check.send(chappe, 0, 0, 9);
        chappe.courier(1);
        chappe.courier(2);
        Check.due("with a courier", chappe.bill(1), 0);
        chappe.pass(121);
        Check.due("by courier, twelve of rank 3", chappe.bill(1), 50);
        Check.due("by courier, one of rank 0", chappe.bill(2), 50);
    }

    static void billOfOneThatWasSetBack() {
        ChappeLine chappe = Check.lineOn(9, 0, 4);
        chappe.bribe(0, 9, 8);
        chappe.bribe(1, 8, 9);
        Check.send(chappe, 0, 1, 9);
        chappe.pass(100);
        Check.sentence(29, "Returns what a message costs.");
        Check.due("right all the same", chappe.bill(0), 4);
        Check.due("though a tower is to blame", chappe.blame(0), 0);
    }

    static void billOfNone() {
        Check.sentence(29, "Throws `IndexOutOfBoundsException` if there is no such message");
        refusesNoMessage((chappe, message) -> chappe.bill(message));
    }
}
