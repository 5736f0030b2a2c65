/** The terms of men, delivery, couriers and books, sentence by sentence. */
public final class MenTest {
    private static final String DOZING = "When it takes or puts a signal of a text, and its doze is greater than "
            + "the number of signals in its log ahead of this one, modulo 10, and this number is odd, it sets the "
            + "signal with its lowest bit turned.";
    private static final String BRIBED = "A tower that is bribed sets, once, a told signal of a text in place of a "
            + "told one that it reads, or the same one, without dozing then.";
    private static final String DAYS = "As each day from the day 1 on begins, of 1440 minutes, the doze of each "
            + "tower becomes 1 less, at least 0.";
    private static final String DELIVERY = "Delivered signals make messages again: 'begin' opens the next one of "
            + "those that were begun, in their order; signals of texts come to the message that is open; 'suspend' "
            + "puts it aside, on top of the others; 'go on' opens the one on top of these; 'end' closes the open "
            + "one: it is delivered.";
    private static final String BLAME = "If a signal of it was set otherwise than it was read by some tower of the "
            + "line, the first such tower is to blame, right or not.";
    private static final String COURIERS = "Then a courier can take a message that waits and was not begun; it is "
            + "delivered, right, at the end of the minute that is 30 times the difference of the cells of the "
            + "first and the last tower later, or of this one, if this is 0.";
    private static final String BOOKS = "Of the books that hold on the day on which a message was put in, the one "
            + "with the latest day is its book, of several the one with the highest number, by books and words as "
            + "they are when this is asked.";

    public static void main(String[] args) {
        Check.runAll(MenTest.class);
    }

    // ---- men

    static void dozes() {
        ChappeLine chappe = Check.lineOn(9, 0, 1);
        Check.sentence(0, "A tower has a doze, from 0 to 9, 0 at first.");
        Check.due("at first", chappe.doze(0, 9), 0);
        Check.due("9", chappe.doze(0, 0), 9);
        Check.due("the other one's at first", chappe.doze(1, 1), 0);
        Check.refuses("-1", Check.ARGUMENT, () -> chappe.doze(0, -1));
        Check.refuses("10", Check.ARGUMENT, () -> chappe.doze(0, 10));
        Check.due("0", chappe.doze(0, 5), 0);
    }

    /** What a tower of each doze sets for twelve times 20, behind a begin at the place 0. */
    private static final String[] DOZED = {
        "61 20 20 20 20 20 20 20 20 20 20 20 20 63", "61 20 20 20 20 20 20 20 20 20 20 20 20 63",
        "61 21 20 20 20 20 20 20 20 20 20 21 20 63", "61 21 20 20 20 20 20 20 20 20 20 21 20 63",
        "61 21 20 21 20 20 20 20 20 20 20 21 20 63", "61 21 20 21 20 20 20 20 20 20 20 21 20 63",
        "61 21 20 21 20 21 20 20 20 20 20 21 20 63", "61 21 20 21 20 21 20 20 20 20 20 21 20 63",
        "61 21 20 21 20 21 20 21 20 20 20 21 20 63", "61 21 20 21 20 21 20 21 20 20 20 21 20 63"
    };

    static void dozingMen() {
        Check.sentence(0, DOZING);
        for (int doze = 0; doze <= 9; doze++) {
            for (int tower = 0; tower < 3; tower++) {
                ChappeLine chappe = Check.lineOn(9, 0, 1, 2);
                chappe.doze(tower, doze);
                Check.send(chappe, 0, 0, 20, 20, 20, 20, 20, 20, 20, 20, 20, 20, 20, 20);
                chappe.pass(200);
                Check.due("doze " + doze + " of " + tower, Check.log(chappe, tower, 's'), DOZED[doze]);
                Check.due("what came", "61 " + Check.text(chappe, 0) + " 63", DOZED[doze]);
            }
        }
    }

    static void dozingCountsTheWholeLog() {
        ChappeLine chappe = Check.lineOn(9, 0, 1);
        Check.send(chappe, 0, 0, 1, 2, 3, 4, 5, 6);
        Check.send(chappe, 0, 0, 1, 2, 3, 4, 5, 6, 7);
        chappe.pass(200);
        chappe.doze(1, 8);
        Check.send(chappe, 0, 0, 20, 20, 20, 20, 20, 20, 20, 20, 20, 20, 20, 20);
        chappe.pass(200);
        Check.sentence(0, DOZING);
        // The first one of the third text has 18 ahead of it, the second one 19, the fourth one 21.
        Check.due("at 21, 23, 25 and 27", Check.text(chappe, 2), "20 20 20 21 20 21 20 21 20 21 20 20");
    }

    static void dozingTurnsTheLowestBit() {
        ChappeLine chappe = Check.lineOn(9, 0, 1);
        chappe.doze(1, 9);
        Check.send(chappe, 0, 0, 59, 0, 58, 0, 0, 0, 1);
        chappe.pass(200);
        Check.sentence(0, DOZING);
        Check.due("odd to even and even to odd", Check.text(chappe, 0), "58 0 59 0 1 0 0");
    }

    static void dozingLeavesOtherSignals() {
        ChappeLine chappe = Check.lineOn(9, 0, 1);
        chappe.doze(0, 9);
        Check.send(chappe, 0, 0, 10, 20, 30);
        Check.passWhile(chappe, () -> chappe.logged(0) < 3);
        Check.send(chappe, 0, 1, 40);
        Check.send(chappe, 0, 0, 50);
        chappe.pass(200);
        Check.sentence(0, DOZING);
        // Suspend, go on, end and begin stand at odd places too.
        Check.due("what was to be put", Check.log(chappe, 0, 'r'), "61 10 20 62 61 40 63 60 30 63 61 50 63");
        Check.due("what it set", Check.log(chappe, 0, 's'), "61 11 20 62 61 41 63 60 30 63 61 51 63");
    }

    static void dozingTwice() {
        ChappeLine chappe = Check.lineOn(9, 0, 1);
        chappe.doze(0, 2);
        chappe.doze(1, 2);
        Check.send(chappe, 0, 0, 20);
        chappe.pass(100);
        Check.sentence(0, "It is right, if it came as it was put.");
        Check.due("turned", chappe.inLog(0, 1, 's'), 21);
        Check.due("and turned again", chappe.inLog(1, 1, 's'), 20);
        Check.due("right", chappe.isRight(0), true);
    }

    static void bribedOnce() {
        ChappeLine chappe = Check.lineOn(9, 0, 1, 2);
        chappe.bribe(1, 30, 40);
        Check.send(chappe, 0, 0, 5, 30, 30, 40);
        chappe.pass(100);
        Check.sentence(0, BRIBED);
        Check.due("in place of a told one", Check.log(chappe, 1, 's'), "61 5 40 30 40 63");
        Check.due("what it read", Check.log(chappe, 1, 'r'), "61 5 30 30 40 63");
        Check.due("the next one reads that", Check.log(chappe, 2, 'r'), "61 5 40 30 40 63");
    }

    static void bribedUntilItReadsThat() {
        ChappeLine chappe = Check.lineOn(9, 0, 1);
        chappe.bribe(1, 30, 40);
        Check.send(chappe, 0, 0, 31, 28, 40);
        chappe.pass(100);
        Check.sentence(0, BRIBED);
        Check.due("not for others", Check.text(chappe, 0), "31 28 40");
        chappe.bribe(0, 29, 30);
        Check.send(chappe, 0, 0, 29, 30);
        chappe.pass(100);
        Check.due("for what it reads, not what was put", Check.text(chappe, 1), "40 30");
    }

    static void bribedFirstTower() {
        ChappeLine chappe = Check.lineOn(9, 0, 1);
        chappe.bribe(0, 30, 40);
        Check.send(chappe, 0, 0, 30, 30);
        chappe.pass(100);
        Check.sentence(0, BRIBED);
        Check.due("what was to be put", Check.log(chappe, 0, 'r'), "61 30 30 63");
        Check.due("in place of a told one", Check.log(chappe, 0, 's'), "61 40 30 63");
    }

    static void bribedWithoutDozing() {
        ChappeLine chappe = Check.lineOn(9, 0, 1);
        chappe.doze(1, 9);
        chappe.bribe(1, 30, 40);
        Check.send(chappe, 0, 0, 30, 5, 30);
        chappe.pass(100);
        Check.sentence(0, BRIBED);
        Check.due("40, not 41; dozing later", Check.text(chappe, 0), "40 5 31");
    }

    static void bribedForTheSame() {
        ChappeLine chappe = Check.lineOn(9, 0, 1);
        chappe.doze(1, 9);
        chappe.bribe(1, 30, 30);
        Check.send(chappe, 0, 0, 30, 5, 30);
        chappe.pass(100);
        Check.sentence(0, BRIBED);
        Check.due("30, not 31; dozing later", Check.text(chappe, 0), "30 5 31");
        Check.due("it was used", chappe.bribe(1, 1, 1), false);
    }

    private static ChappeLine onDay(int minute, int doze) {
        ChappeLine chappe = Check.lineOn(9, 0, 1);
        chappe.tower(20, 1);
        chappe.doze(0, doze);
        chappe.doze(1, 5);
        chappe.doze(2, 9);
        Check.passUntil(chappe, minute);
        return chappe;
    }

    static void dozesByDays() {
        Check.sentence(0, DAYS);
        ChappeLine chappe = onDay(1439, 1);
        Check.due("day 0", chappe.doze(1, 5), 5);
        chappe.pass(2);
        Check.due("day 1", chappe.doze(1, 4), 4);
        Check.due("in no line", chappe.doze(2, 8), 8);
        Check.due("1 becomes 0", chappe.doze(0, 0), 0);
        Check.passUntil(chappe, 2879);
        Check.due("still day 1", chappe.doze(1, 4), 4);
        chappe.breakDown(1, true);
        Check.passUntil(chappe, 2881);
        Check.due("day 2, broken", chappe.doze(1, 0), 3);
        Check.due("0 stays 0", chappe.doze(0, 0), 0);
        Check.due("day 2, in no line", chappe.doze(2, 1), 7);
        Check.passUntil(chappe, 4321);
        Check.due("day 3", chappe.doze(2, 1), 0);
    }

    static void dozesOnDay0() {
        ChappeLine chappe = Check.lineOn(9, 0, 1);
        chappe.doze(0, 9);
        chappe.pass(1);
        Check.sentence(0, DAYS);
        Check.due("the day 0 takes none", chappe.doze(0, 9), 9);
    }

    static void dozesAsTheDayBegins() {
        Check.sentence(0, DAYS);
        // The begin is put 6 minutes ahead of the text, which has one signal ahead of it.
        ChappeLine last = onDay(1433, 2);
        Check.send(last, 0, 0, 20);
        last.pass(7);
        Check.due("put in the last minute of day 0", last.inLog(0, 1, 'm'), 1439);
        Check.due("with a doze of 2", last.inLog(0, 1, 's'), 21);
        ChappeLine first = onDay(1434, 2);
        Check.send(first, 0, 0, 20);
        first.pass(7);
        Check.due("put in the first minute of day 1", first.inLog(0, 1, 'm'), 1440);
        Check.due("with a doze of 1", first.inLog(0, 1, 's'), 20);
    }

    static void dozesOverADayAtOnce() {
        ChappeLine chappe = onDay(1400, 3);
        Check.sentence(0, DAYS);
        chappe.pass(300);
        Check.due("once", chappe.doze(0, 0), 2);
    }

    // ---- delivery

    static void deliveredSignalsMakeMessages() {
        ChappeLine chappe = Check.lineOn(9, 0, 1);
        Check.send(chappe, 0, 0, 1, 2);
        Check.send(chappe, 0, 0, 3);
        Check.sentence(0, DELIVERY);
        Check.due("both", chappe.pass(100), 2);
        Check.due("the first one", Check.text(chappe, 0), "1 2");
        Check.due("the second one", Check.text(chappe, 1), "3");
    }

    static void deliveredInTheOrderOfBegins() {
        ChappeLine chappe = Check.lineOn(9, 0, 1);
        Check.send(chappe, 0, 0, 1, 2, 3);
        Check.send(chappe, 0, 3, 4, 5);
        Check.send(chappe, 0, 1, 6);
        Check.sentence(0, DELIVERY);
        Check.due("all", chappe.pass(200), 3);
        Check.due("begun last", Check.text(chappe, 0), "1 2 3");
        Check.due("begun first", Check.text(chappe, 1), "4 5");
        Check.due("begun second", Check.text(chappe, 2), "6");
        Check.due("by rank", chappe.deliveredAt(1) < chappe.deliveredAt(2), true);
        Check.due("the last one", chappe.deliveredAt(2) < chappe.deliveredAt(0), true);
    }

    static void deliveredInPieces() {
        ChappeLine chappe = Check.lineOn(9, 0, 1, 2, 3);
        for (int rank = 0; rank < 4; rank++) {
            Check.send(chappe, 0, rank, 10 * rank, 10 * rank + 1);
            // Each is broken off behind the first signal of its text.
            int begun = 3 * rank + 2;
            if (rank < 3) {
                Check.passWhile(chappe, () -> chappe.logged(0) < begun);
            }
        }
        Check.sentence(0, DELIVERY);
        Check.passWhile(chappe, () -> chappe.state(3) != 'd');
        Check.due("the last one is whole", Check.text(chappe, 3), "30 31");
        Check.due("the others are not: 2", Check.text(chappe, 2), "20");
        Check.due("the others are not: 1", Check.text(chappe, 1), "10");
        Check.due("the others are not: 0", Check.text(chappe, 0), "0");
        Check.passWhile(chappe, () -> chappe.state(2) != 'd');
        Check.due("the one on top is next", Check.text(chappe, 2), "20 21");
        Check.due("the lower one is aside", Check.text(chappe, 1), "10");
        chappe.pass(200);
        Check.due("then the lower one", Check.text(chappe, 1), "10 11");
        Check.due("then the lowest one", Check.text(chappe, 0), "0 1");
        Check.due("in this order", chappe.deliveredAt(1) < chappe.deliveredAt(0), true);
    }

    static void deliveredPastACourier() {
        ChappeLine chappe = Check.lineOn(9, 0, 1);
        Check.send(chappe, 0, 0, 1);
        Check.send(chappe, 0, 0, 2);
        chappe.breakDown(1, true);
        chappe.courier(0);
        chappe.breakDown(1, false);
        Check.sentence(0, DELIVERY);
        Check.due("both", chappe.pass(100), 2);
        Check.due("by courier", Check.text(chappe, 0), "1");
        Check.due("by arms, begun first", Check.text(chappe, 1), "2");
    }

    static void rightAsItWasPut() {
        ChappeLine chappe = Check.lineOn(9, 0, 1, 2);
        chappe.bribe(0, 30, 40);
        chappe.bribe(1, 40, 50);
        chappe.bribe(2, 50, 30);
        Check.send(chappe, 0, 0, 30);
        chappe.pass(100);
        Check.sentence(0, "It is right, if it came as it was put.");
        Check.due("set back by the last one", chappe.isRight(0), true);
        chappe.bribe(0, 5, 6);
        chappe.bribe(1, 6, 4);
        Check.send(chappe, 0, 0, 5);
        chappe.pass(100);
        Check.due("not set back", chappe.isRight(1), false);
        chappe.bribe(2, 3, 7);
        Check.send(chappe, 0, 0, 3, 1);
        Check.send(chappe, 0, 0, 1, 3);
        chappe.pass(100);
        Check.due("its first one", chappe.isRight(2), false);
        Check.due("not changed", chappe.isRight(3), true);
    }

    static void firstTowerToBlame() {
        Check.sentence(0, BLAME);
        for (int first = 0; first < 3; first++) {
            ChappeLine chappe = Check.lineOn(9, 2, 1, 0);
            // The later towers change an earlier signal.
            for (int tower = first; tower < 3; tower++) {
                chappe.bribe(tower, 30 - tower, 7);
            }
            Check.send(chappe, 0, 0, 28, 29, 30);
            chappe.pass(100);
            Check.due("from " + first + " on", chappe.blame(0), first);
        }
    }

    static void blamedRightOrNot() {
        ChappeLine chappe = Check.lineOn(9, 0, 1, 2);
        chappe.bribe(1, 30, 40);
        chappe.bribe(2, 40, 30);
        Check.send(chappe, 0, 0, 30);
        chappe.pass(100);
        Check.sentence(0, BLAME);
        Check.due("it is right", chappe.isRight(0), true);
        Check.due("all the same", chappe.blame(0), 1);
        chappe.bribe(2, 30, 31);
        Check.send(chappe, 0, 0, 30);
        chappe.pass(100);
        Check.due("it is wrong", chappe.isRight(1), false);
        Check.due("the last tower", chappe.blame(1), 2);
    }

    static void blamedForItsOwnSignals() {
        ChappeLine chappe = Check.lineOn(9, 0, 4);
        Check.send(chappe, 0, 0, 1, 2);
        chappe.pass(7);
        Check.send(chappe, 0, 1, 5);
        chappe.bribe(1, 5, 6);
        chappe.pass(100);
        Check.sentence(0, BLAME);
        Check.due("the inner one", chappe.blame(1), 1);
        Check.refuses("not the outer one", Check.NO_ELEMENT, () -> chappe.blame(0));
        Check.send(chappe, 0, 0, 1, 2);
        chappe.pass(7);
        Check.send(chappe, 0, 1, 5);
        chappe.bribe(0, 2, 7);
        chappe.pass(100);
        Check.due("behind the inner one", chappe.blame(2), 0);
        Check.refuses("not the inner one", Check.NO_ELEMENT, () -> chappe.blame(3));
    }

    static void blamedByDozing() {
        ChappeLine chappe = Check.lineOn(9, 0, 4);
        chappe.doze(1, 2);
        Check.send(chappe, 0, 0, 9);
        chappe.pass(100);
        Check.sentence(0, BLAME);
        Check.due("the one that dozes", chappe.blame(0), 1);
    }

    // ---- couriers

    static void blindLines() {
        Check.sentence(0, "A line is blind, if two neighbours in it do not see each other.");
        for (int tower = 0; tower < 3; tower++) {
            ChappeLine chappe = Check.lineOn(5, 0, 8, 16);
            Check.due("it sees", chappe.isBlind(0), false);
            chappe.breakDown(tower, true);
            Check.due("broken " + tower, chappe.isBlind(0), true);
            chappe.breakDown(tower, false);
            chappe.setFog(8 * tower, 5);
            Check.due("fog at " + tower, chappe.isBlind(0), true);
            chappe.setFog(8 * tower, 4);
            Check.due("mist at " + tower, chappe.isBlind(0), false);
        }
        ChappeLine order = Check.lineOn(5, 0, 12, 6);
        Check.due("0 and 12 are neighbours in it", order.isBlind(0), true);
        ChappeLine other = Check.lineOn(5, 0, 6, 12);
        Check.due("0 and 12 are not", other.isBlind(0), false);
    }

    /** A line's cells, and how many minutes its courier needs. */
    private static final int[][] WAYS = {
        {0, 1, 30}, {1, 0, 30}, {0, 23, 690}, {23, 0, 690}, {7, 15, 240}
    };

    static void couriersByDistance() {
        Check.sentence(0, COURIERS);
        for (int[] way : WAYS) {
            ChappeLine chappe = Check.lineOn(5, way[0], way[1]);
            chappe.breakDown(1, true);
            chappe.pass(11);
            Check.send(chappe, 0, 0, 7);
            String what = "from " + way[0] + " to " + way[1];
            Check.due(what, chappe.courier(0), 11 + way[2]);
            Check.due(what + ", not earlier", Check.passUntil(chappe, 11 + way[2]), 0);
            Check.due(what + ", at the end of this minute", chappe.pass(1), 1);
            Check.due(what + ", the minute", chappe.deliveredAt(0), 11 + way[2]);
        }
    }

    static void couriersByTheFirstAndTheLastTower() {
        Check.sentence(0, COURIERS);
        ChappeLine chappe = Check.lineOn(5, 9, 1, 20, 12);
        Check.send(chappe, 0, 0, 7);
        Check.due("not by those between", chappe.courier(0), 90);
    }

    static void couriersAreRight() {
        ChappeLine chappe = Check.lineOn(5, 0, 1);
        chappe.doze(0, 9);
        chappe.doze(1, 9);
        chappe.bribe(0, 7, 8);
        chappe.bribe(1, 7, 8);
        chappe.breakDown(0, true);
        Check.send(chappe, 0, 0, 7, 9);
        chappe.courier(0);
        chappe.breakDown(0, false);
        chappe.pass(31);
        Check.sentence(0, COURIERS);
        Check.due("it came", Check.text(chappe, 0), "7 9");
        Check.due("right", chappe.isRight(0), true);
        Check.due("nobody read it", chappe.signals(), 0L);
        Check.due("the bribe was not used", chappe.bribe(0, 1, 1), true);
    }

    static void couriersTakeWhatWaits() {
        ChappeLine chappe = Check.lineOn(5, 0, 1);
        Check.send(chappe, 0, 0, 1, 2);
        chappe.pass(1);
        Check.send(chappe, 0, 3, 3);
        Check.send(chappe, 0, 2, 4);
        chappe.pass(6);
        chappe.breakDown(1, true);
        Check.sentence(0, COURIERS);
        Check.due("broken off", chappe.state(0), 'b');
        Check.refuses("it was begun", Check.UNSUPPORTED, () -> chappe.courier(0));
        Check.due("this one waits", chappe.courier(2), 37);
        chappe.breakDown(1, false);
        Check.refuses("it waits no more", Check.UNSUPPORTED, () -> chappe.courier(2));
        Check.refuses("the line is not blind any more", Check.STATE, () -> chappe.courier(1));
        chappe.pass(100);
        Check.due("the courier's is not put", Check.log(chappe, 0, 'r'), "61 62 61 3 63 60 1 2 63");
        Check.due("it came by courier", chappe.deliveredAt(2), 37);
    }

    // ---- books

    static void threeBooks() {
        ChappeLine chappe = new ChappeLine();
        Check.sentence(0, "At most 3 books are numbered from 0, each with the day from which on it holds, and a word, "
                + "a number, for some signals.");
        for (int i = 0; i < 3; i++) {
            Check.due("number", chappe.book(i), i);
        }
        Check.refuses("a fourth", Check.STATE, () -> chappe.book(3));
        for (int i = 0; i < 3; i++) {
            Check.due("its own word", chappe.setWord(i, 7, i), -1);
        }
        for (int i = 0; i < 3; i++) {
            Check.due("it was kept", chappe.setWord(i, 7, 9), i);
            Check.due("none for other signals", chappe.setWord(i, 8, 9), -1);
        }
        Check.refuses("no fourth", Check.INDEX, () -> chappe.setWord(3, 7, 0));
    }

    private static ChappeLine withBooks(int... days) {
        ChappeLine chappe = Check.lineOn(9, 0, 1);
        for (int i = 0; i < days.length; i++) {
            chappe.book(days[i]);
            chappe.setWord(i, 7, 100 + i);
        }
        return chappe;
    }

    /** Messages of one signal 7, put in in these minutes. */
    private static void putInIn(ChappeLine chappe, int... minutes) {
        for (int minute : minutes) {
            Check.passUntil(chappe, minute);
            Check.send(chappe, 0, 0, 7);
        }
        chappe.pass(100);
    }

    static void booksByDays() {
        ChappeLine chappe = withBooks(2, 1);
        putInIn(chappe, 1439, 1440, 2879, 2880, 5000);
        Check.sentence(0, BOOKS);
        Check.refuses("the last minute of day 0", Check.NO_ELEMENT, () -> chappe.meaning(0, 0));
        Check.due("the first minute of day 1", chappe.meaning(1, 0), 101);
        Check.due("the last minute of day 1", chappe.meaning(2, 0), 101);
        Check.due("the first minute of day 2", chappe.meaning(3, 0), 100);
        Check.due("on day 3 the book of day 2", chappe.meaning(4, 0), 100);
    }

    static void booksByTheDayOfThePut() {
        ChappeLine chappe = withBooks(0, 1);
        Check.passUntil(chappe, 1439);
        Check.send(chappe, 0, 0, 7);
        chappe.pass(100);
        Check.sentence(0, BOOKS);
        Check.due("it was begun and delivered", chappe.deliveredAt(0) >= 1440, true);
        Check.due("not by the day of the delivery", chappe.meaning(0, 0), 100);
    }

    static void booksByNumber() {
        ChappeLine chappe = withBooks(0, 0);
        putInIn(chappe, 5);
        Check.sentence(0, BOOKS);
        Check.due("of the same day", chappe.meaning(0, 0), 101);
        chappe.book(0);
        Check.refuses("a newer one, without words", Check.NO_ELEMENT, () -> chappe.meaning(0, 0));
    }

    static void booksAsTheyAreWhenAsked() {
        ChappeLine chappe = withBooks(1);
        putInIn(chappe, 0, 1500);
        Check.sentence(0, BOOKS);
        Check.due("by the book of day 1", chappe.meaning(1, 0), 100);
        Check.refuses("no book on day 0", Check.NO_ELEMENT, () -> chappe.meaning(0, 0));
        chappe.book(0);
        chappe.setWord(1, 7, 101);
        Check.due("a book that was written later", chappe.meaning(0, 0), 101);
        Check.due("the latest day is ahead of the highest number", chappe.meaning(1, 0), 100);
        chappe.setWord(0, 7, 200);
        Check.due("a word that was set later", chappe.meaning(1, 0), 200);
    }
}
