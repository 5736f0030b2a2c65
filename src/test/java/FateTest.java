/** Promises 22 to 29: what became of messages. */
public final class FateTest {
    public static void main(String[] args) {
        state();
        came();
        meaning();
        meaningByDays();
        delivered();
        blame();
        blameOfMessagesInPieces();
        bill();
        refusals();
        Check.end("FateTest");
    }

    private static void state() {
        ChappeLine chappe = Check.lineOn(9, 0, 4);
        Check.send(chappe, 0, 0, 1);
        Check.due("22: waits", chappe.state(0), 'w');
        chappe.pass(1);
        Check.due("22: being put", chappe.state(0), 'p');
        Check.send(chappe, 0, 3, 1);
        chappe.pass(6);
        Check.due("22: broken off", chappe.state(0), 'b');
        Check.due("22: waits behind it", chappe.state(1), 'w');
        chappe.pass(300);
        Check.due("22: delivered", chappe.state(0), 'd');
        Check.send(chappe, 0, 0, 63 - 4);
        while (chappe.inLog(0, chappe.logged(0) - 1, 'r') != 63 || chappe.logged(0) < 11) {
            Check.due("22: the end was not put", chappe.state(2) == 'l', false);
            chappe.pass(1);
        }
        Check.due("22: the end was put", chappe.state(2), 'l');
        chappe.breakDown(0, true);
        Check.send(chappe, 0, 0, 1);
        chappe.courier(3);
        Check.due("22: has a courier", chappe.state(3), 'c');
        chappe.breakDown(0, false);
        chappe.pass(300);
        Check.due("22: delivered too", chappe.state(2), 'd');
        Check.due("22: delivered by courier", chappe.state(3), 'd');
    }

    private static void came() {
        ChappeLine chappe = Check.lineOn(9, 0, 4);
        Check.send(chappe, 0, 0, 10, 20);
        Check.due("23: none", chappe.came(0), 0);
        Check.refuses("24: none", Check.INDEX, () -> chappe.signalAt(0, 0));
        int counted = 0;
        for (int i = 0; i < 60; i++) {
            chappe.pass(1);
            Check.due("23: at most one more a minute", chappe.came(0) - counted <= 1, true);
            counted = chappe.came(0);
            if (counted == 1) {
                Check.due("24: the first one", chappe.signalAt(0, 0), 10);
                Check.refuses("24: the second is on its way", Check.INDEX, () -> chappe.signalAt(0, 1));
                Check.refuses("25: the second is on its way", Check.INDEX, () -> chappe.meaning(0, 1));
            }
        }
        Check.due("23: both", chappe.came(0), 2);
        Check.due("24: the second one", chappe.signalAt(0, 1), 20);
        Check.refuses("24: no third", Check.INDEX, () -> chappe.signalAt(0, 2));
        Check.refuses("24: -1", Check.INDEX, () -> chappe.signalAt(0, -1));
    }

    private static void meaning() {
        ChappeLine chappe = Check.lineOn(9, 0, 4);
        chappe.bribe(1, 8, 9);
        Check.send(chappe, 0, 0, 7, 8);
        Check.refuses("25: not delivered", Check.INDEX, () -> chappe.meaning(0, 0));
        chappe.pass(300);
        Check.refuses("25: index -1", Check.INDEX, () -> chappe.meaning(0, -1));
        Check.refuses("25: index 2", Check.INDEX, () -> chappe.meaning(0, 2));
        Check.refuses("25: no book", Check.NO_ELEMENT, () -> chappe.meaning(0, 0));
        chappe.book(0);
        Check.refuses("25: no word", Check.NO_ELEMENT, () -> chappe.meaning(0, 0));
        chappe.setWord(0, 7, 70);
        chappe.setWord(0, 8, 80);
        chappe.setWord(0, 9, 0);
        Check.due("25: a word", chappe.meaning(0, 0), 70);
        Check.due("25: as it was delivered", chappe.meaning(0, 1), 0);
        chappe.book(0);
        Check.refuses("25: the one with the highest number", Check.NO_ELEMENT, () -> chappe.meaning(0, 0));
        chappe.setWord(1, 7, 71);
        Check.due("25: its word", chappe.meaning(0, 0), 71);
        chappe.setWord(1, 7, 72);
        Check.due("25: words as they are now", chappe.meaning(0, 0), 72);
        chappe.book(1);
        Check.due("25: not of a later day", chappe.meaning(0, 0), 72);
    }

    private static void meaningByDays() {
        ChappeLine chappe = Check.lineOn(9, 0, 4);
        chappe.book(2);
        chappe.book(1);
        for (int i = 0; i < 2; i++) {
            chappe.setWord(i, 7, 100 + i);
        }
        Check.passUntil(chappe, 1439);
        Check.send(chappe, 0, 0, 7);
        chappe.pass(1);
        Check.send(chappe, 0, 0, 7);
        Check.passUntil(chappe, 2879);
        Check.send(chappe, 0, 0, 7);
        chappe.pass(1);
        Check.send(chappe, 0, 0, 7);
        chappe.pass(300);
        Check.refuses("25: put in on day 0", Check.NO_ELEMENT, () -> chappe.meaning(0, 0));
        Check.due("25: put in as day 1 begins", chappe.meaning(1, 0), 101);
        Check.due("25: put in as day 1 ends", chappe.meaning(2, 0), 101);
        Check.due("25: put in on day 2", chappe.meaning(3, 0), 100);
        chappe.book(0);
        chappe.setWord(2, 7, 102);
        Check.due("25: put in on day 0, with a later book", chappe.meaning(0, 0), 102);
        Check.due("25: the latest day first", chappe.meaning(3, 0), 100);
    }

    private static void delivered() {
        ChappeLine chappe = Check.lineOn(9, 0, 4);
        chappe.bribe(0, 1, 2);
        Check.send(chappe, 0, 0, 1);
        Check.send(chappe, 0, 0, 1);
        chappe.pass(3);
        Check.refuses("26: not yet", Check.NO_ELEMENT, () -> chappe.deliveredAt(0));
        Check.refuses("27: not yet", Check.NO_ELEMENT, () -> chappe.isRight(0));
        // The second tower takes in 6, 13 and 20; 61 and 2 differ in 6 bits, 2 and 63 in 5.
        Check.due("17: none up to 24", Check.passUntil(chappe, 25), 0);
        Check.due("17: in 25", chappe.pass(1), 1);
        Check.due("26: when", chappe.deliveredAt(0), 25);
        Check.due("27: wrong", chappe.isRight(0), false);
        chappe.pass(100);
        Check.due("27: right", chappe.isRight(1), true);
    }

    private static void blame() {
        ChappeLine chappe = Check.lineOn(9, 8, 4, 0);
        chappe.tower(20, 9);
        int message = Check.send(chappe, 0, 0, 30, 31);
        Check.refuses("28: none yet", Check.NO_ELEMENT, () -> chappe.blame(message));
        chappe.bribe(2, 30, 1);
        chappe.bribe(1, 31, 2);
        Check.passUntil(chappe, 13);
        Check.refuses("28: none has changed it", Check.NO_ELEMENT, () -> chappe.blame(message));
        Check.passUntil(chappe, 100);
        Check.due("28: ahead in the line, not in time", chappe.blame(message), 1);
        Check.due("28: wrong", chappe.isRight(message), false);
        int other = Check.send(chappe, 0, 0, 30, 31);
        chappe.pass(100);
        Check.refuses("28: not for another message", Check.NO_ELEMENT, () -> chappe.blame(other));
        chappe.bribe(2, 30, 1);
        int third = Check.send(chappe, 0, 0, 30);
        while (chappe.logged(2) < 10) {
            Check.refuses("28: not in a log yet", Check.NO_ELEMENT, () -> chappe.blame(third));
            chappe.pass(1);
        }
        Check.due("28: ahead of the delivery", chappe.blame(third), 2);
        Check.due("28: which has not come", chappe.came(third), 0);
    }

    private static void blameOfMessagesInPieces() {
        ChappeLine chappe = Check.lineOn(9, 0, 4);
        Check.send(chappe, 0, 0, 1, 2);
        chappe.pass(7);
        Check.send(chappe, 0, 1, 5);
        chappe.bribe(1, 5, 6);
        chappe.pass(300);
        Check.due("28: the inner one", chappe.blame(1), 1);
        Check.refuses("28: the outer one", Check.NO_ELEMENT, () -> chappe.blame(0));
        Check.send(chappe, 0, 0, 1, 2);
        chappe.pass(7);
        Check.send(chappe, 0, 1, 5);
        chappe.bribe(0, 2, 7);
        chappe.pass(300);
        Check.due("28: behind the inner one", chappe.blame(2), 0);
        Check.refuses("28: the inner one is right", Check.NO_ELEMENT, () -> chappe.blame(3));
    }

    private static void bill() {
        ChappeLine chappe = Check.lineOn(9, 0, 4);
        for (int rank = 0; rank < 4; rank++) {
            Check.send(chappe, 0, rank, 1, 2, 3);
        }
        Check.due("29: not delivered", chappe.bill(3), 0);
        chappe.pass(300);
        for (int rank = 0; rank < 4; rank++) {
            Check.due("29: by rank", chappe.bill(rank), 6 * (rank + 1));
        }
        chappe.bribe(0, 9, 8);
        Check.send(chappe, 0, 3, 9);
        chappe.pass(100);
        Check.due("29: wrong", chappe.bill(4), 0);
        Check.send(chappe, 0, 3, 9);
        chappe.setFog(1, 9);
        chappe.courier(5);
        Check.due("29: on its way", chappe.bill(5), 0);
        chappe.pass(200);
        Check.due("29: by courier", chappe.bill(5), 50);
    }

    private static void refusals() {
        ChappeLine chappe = Check.lineOn(9, 0, 4);
        Check.send(chappe, 0, 0, 1);
        for (int i = 0; i < 2; i++) {
            int message = i == 0 ? -1 : 1;
            Check.refuses("22: no message", Check.INDEX, () -> chappe.state(message));
            Check.refuses("23: no message", Check.INDEX, () -> chappe.came(message));
            Check.refuses("24: no message", Check.INDEX, () -> chappe.signalAt(message, 0));
            Check.refuses("25: no message", Check.INDEX, () -> chappe.meaning(message, 0));
            Check.refuses("26: no message", Check.INDEX, () -> chappe.deliveredAt(message));
            Check.refuses("27: no message", Check.INDEX, () -> chappe.isRight(message));
            Check.refuses("28: no message", Check.INDEX, () -> chappe.blame(message));
            Check.refuses("29: no message", Check.INDEX, () -> chappe.bill(message));
        }
    }
}
