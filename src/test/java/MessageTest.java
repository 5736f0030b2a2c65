/** Promises 10 to 16, sentence by sentence: messages, men and books. */
public final class MessageTest {
    public static void main(String[] args) {
        Check.runAll(MessageTest.class);
    }

    // ---- 10: type

    static void typeBehindTheText() {
        ChappeLine chappe = Check.lineOn(9, 0, 4);
        Check.sentence(10, "Puts a signal behind the text that is written.");
        Check.send(chappe, 0, 0, 30, 10, 20, 10);
        chappe.pass(300);
        Check.due("in this order", Check.text(chappe, 0), "30 10 20 10");
    }

    static void typeFrom0To59() {
        ChappeLine chappe = Check.lineOn(9, 0, 4);
        Check.sentence(10, "`signal`: the signal, 0 to 59");
        Check.due("the least", chappe.type(0), 1);
        Check.due("the greatest", chappe.type(59), 2);
        chappe.put(0, 0);
        chappe.pass(300);
        Check.due("both", Check.text(chappe, 0), "0 59");
    }

    static void typeCounts() {
        ChappeLine chappe = Check.lineOn(9, 0, 4);
        Check.sentence(10, "Returns how many it has.");
        for (int i = 1; i <= 12; i++) {
            Check.due("one more", chappe.type(7), i);
        }
        chappe.put(0, 0);
        Check.due("of the new text", chappe.type(7), 1);
    }

    static void typeOutOfRange() {
        ChappeLine chappe = new ChappeLine();
        Check.sentence(10, "Throws `IllegalArgumentException` if it is out of range");
        for (int signal : Check.outside(0, 59)) {
            Check.refuses("signal " + signal, Check.ARGUMENT, () -> chappe.type(signal));
        }
        for (int signal = 60; signal <= 64; signal++) {
            int special = signal;
            Check.refuses("signal " + signal, Check.ARGUMENT, () -> chappe.type(special));
        }
    }

    static void thirteenthSignal() {
        ChappeLine chappe = Check.lineOn(9, 0, 4);
        Check.type(chappe, 1, 2, 3, 4, 5, 6, 7, 8, 9, 10, 11);
        Check.sentence(10, "Throws `IllegalStateException` if it has 12");
        Check.due("the twelfth", chappe.type(12), 12);
        Check.refuses("a thirteenth", Check.STATE, () -> chappe.type(13));
        Check.refuses("a thirteenth again", Check.STATE, () -> chappe.type(0));
        chappe.put(0, 0);
        chappe.pass(300);
        Check.due("it is not in the message", Check.text(chappe, 0), "1 2 3 4 5 6 7 8 9 10 11 12");
    }

    // ---- 11: put

    static void putTheText() {
        ChappeLine chappe = Check.lineOn(9, 0, 4);
        Check.addLine(chappe, 9, 10, 14);
        Check.type(chappe, 5, 6);
        Check.sentence(11, "Puts in the text that is written as a message; a new text is empty.");
        chappe.put(1, 0);
        Check.refuses("the new text is empty", Check.UNSUPPORTED, () -> chappe.put(1, 0));
        Check.send(chappe, 1, 0, 8);
        chappe.pass(300);
        Check.due("the message's text", Check.text(chappe, 0), "5 6");
        Check.due("the other one's text", Check.text(chappe, 1), "8");
        Check.due("on its line", chappe.logged(2), 4 + 3);
        Check.due("not on the other one", chappe.logged(0), 0);
    }

    static void putRankFrom0To3() {
        ChappeLine chappe = Check.lineOn(9, 0, 4);
        Check.sentence(11, "`rank`: the rank, 0 to 3");
        Check.due("0", Check.send(chappe, 0, 0, 1), 0);
        Check.due("1", Check.send(chappe, 0, 1, 2), 1);
        Check.due("2", Check.send(chappe, 0, 2, 3), 2);
        Check.due("3", Check.send(chappe, 0, 3, 4), 3);
        chappe.pass(300);
        Check.due("each with its own", Check.log(chappe, 0, 'r'), "61 4 63 61 3 63 61 2 63 61 1 63");
    }

    static void putNumbers() {
        ChappeLine chappe = Check.lineOn(9, 0, 4);
        Check.addLine(chappe, 9, 10, 14);
        Check.sentence(11, "Returns the number of the message.");
        for (int i = 0; i < 20; i++) {
            Check.due("number", Check.send(chappe, i % 2, i % 4, i), i);
        }
    }

    static void putForNoLine() {
        ChappeLine chappe = Check.lineOn(9, 0, 4);
        chappe.type(5);
        Check.sentence(11, "Throws `IndexOutOfBoundsException` if there is no such line");
        for (int line : Check.outside(0, 0)) {
            Check.refuses("line " + line, Check.INDEX, () -> chappe.put(line, 0));
        }
    }

    static void putOutOfRange() {
        ChappeLine chappe = Check.lineOn(9, 0, 4);
        chappe.type(5);
        Check.sentence(11, "Throws `IllegalArgumentException` if the rank is out of range");
        for (int rank : Check.outside(0, 3)) {
            Check.refuses("rank " + rank, Check.ARGUMENT, () -> chappe.put(0, rank));
        }
        Check.due("the text is kept", chappe.type(6), 2);
    }

    static void putWithoutTextOrTowers() {
        ChappeLine chappe = Check.lineOn(9, 0, 4);
        Check.addLine(chappe, 9, 10);
        chappe.line();
        Check.sentence(11, "Throws `UnsupportedOperationException` if the text is empty, "
                + "or the line has fewer than 2 towers");
        Check.refuses("empty", Check.UNSUPPORTED, () -> chappe.put(0, 0));
        Check.refuses("empty, and one tower", Check.UNSUPPORTED, () -> chappe.put(1, 0));
        chappe.type(5);
        Check.refuses("one tower", Check.UNSUPPORTED, () -> chappe.put(1, 0));
        Check.refuses("no tower", Check.UNSUPPORTED, () -> chappe.put(2, 0));
        chappe.extend(1, chappe.tower(12, 9));
        Check.due("one signal, two towers", chappe.put(1, 0), 0);
    }

    static void twentyFirstMessage() {
        ChappeLine chappe = Check.lineOn(9, 0, 4);
        Check.addLine(chappe, 9, 10, 14);
        for (int i = 0; i < 19; i++) {
            Check.send(chappe, i % 2, 0, i);
        }
        chappe.type(1);
        Check.sentence(11, "Throws `IllegalStateException` if there are 20 messages");
        Check.due("the twentieth", chappe.put(0, 0), 19);
        chappe.type(1);
        Check.refuses("a twenty-first", Check.STATE, () -> chappe.put(0, 0));
        Check.refuses("on the other line", Check.STATE, () -> chappe.put(1, 0));
        Check.due("all are delivered", Check.passUntil(chappe, 600), 20);
        Check.refuses("delivered ones count", Check.STATE, () -> chappe.put(0, 0));
        Check.due("the text is kept", chappe.type(1), 2);
    }

    // ---- 12: courier

    static void courierTakesIt() {
        ChappeLine chappe = Check.lineOn(9, 0, 9);
        int message = Check.send(chappe, 0, 3, 7, 8);
        Check.sentence(12, "Gives a message to a courier.");
        chappe.courier(message);
        Check.due("it is on its way", chappe.state(message), 'c');
        Check.due("nothing came yet", chappe.came(message), 0);
        chappe.pass(30);
        Check.due("it is not put", chappe.logged(0), 0);
        Check.passUntil(chappe, 271);
        Check.due("delivered", chappe.state(message), 'd');
        Check.due("its text", Check.text(chappe, message), "7 8");
        Check.due("nothing in logs", chappe.signals(), 0L);
    }

    static void courierMinute() {
        ChappeLine chappe = Check.lineOn(9, 9, 3, 4, 13);
        chappe.breakDown(0, true);
        chappe.pass(17);
        int message = Check.send(chappe, 0, 0, 7);
        int other = Check.send(chappe, 0, 0, 7);
        Check.sentence(12, "Returns the minute at the end of which it is delivered.");
        Check.due("30 minutes a cell", chappe.courier(message), 17 + 30 * 4);
        chappe.pass(3);
        Check.due("from now on", chappe.courier(other), 20 + 30 * 4);
        Check.due("none up to then", Check.passUntil(chappe, 137), 0);
        Check.due("still on its way", chappe.state(message), 'c');
        Check.due("in this minute", chappe.pass(1), 1);
        Check.due("delivered", chappe.state(message), 'd');
        Check.due("when", chappe.deliveredAt(message), 137);
        Check.due("the other one is on its way", chappe.state(other), 'c');
        Check.due("three minutes later", chappe.pass(3), 1);
    }

    static void courierOfNoMessage() {
        ChappeLine chappe = Check.lineOn(9, 0, 9);
        Check.sentence(12, "Throws `IndexOutOfBoundsException` if there is no such message");
        Check.refuses("none at all", Check.INDEX, () -> chappe.courier(0));
        Check.send(chappe, 0, 0, 1);
        for (int message : Check.outside(0, 0)) {
            Check.refuses("message " + message, Check.INDEX, () -> chappe.courier(message));
        }
    }

    static void courierOfOneThatDoesNotWait() {
        ChappeLine chappe = Check.lineOn(9, 0, 4);
        Check.send(chappe, 0, 0, 7, 8);
        chappe.pass(1);
        Check.sentence(12, "Throws `UnsupportedOperationException` if it does not wait, or was begun");
        chappe.setFog(4, 9);
        Check.refuses("being put", Check.UNSUPPORTED, () -> chappe.courier(0));
        chappe.setFog(4, 0);
        Check.send(chappe, 0, 1, 9);
        chappe.pass(6);
        chappe.setFog(4, 9);
        Check.due("broken off", chappe.state(0), 'b');
        Check.refuses("broken off", Check.UNSUPPORTED, () -> chappe.courier(0));
        chappe.courier(1);
        Check.refuses("with a courier", Check.UNSUPPORTED, () -> chappe.courier(1));
        chappe.setFog(4, 0);
        Check.passWhile(chappe, () -> chappe.state(0) != 'l');
        chappe.setFog(4, 9);
        Check.refuses("wholly put", Check.UNSUPPORTED, () -> chappe.courier(0));
        Check.passUntil(chappe, 200);
        Check.refuses("delivered by courier", Check.UNSUPPORTED, () -> chappe.courier(1));
        chappe.setFog(4, 0);
        chappe.pass(100);
        chappe.setFog(4, 9);
        Check.due("delivered", chappe.state(0), 'd');
        Check.refuses("delivered", Check.UNSUPPORTED, () -> chappe.courier(0));
    }

    static void courierOfALineThatSees() {
        ChappeLine chappe = Check.lineOn(9, 0, 4);
        Check.addLine(chappe, 9, 10, 20);
        Check.send(chappe, 0, 0, 7);
        Check.sentence(12, "Throws `IllegalStateException` if its line is not blind");
        Check.refuses("only the other line is blind", Check.STATE, () -> chappe.courier(0));
        chappe.setFog(2, 4);
        Check.refuses("mist", Check.STATE, () -> chappe.courier(0));
        chappe.setFog(2, 5);
        Check.due("fog", chappe.courier(0), 120);
    }

    static void courierBetweenOthers() {
        ChappeLine chappe = Check.lineOn(9, 0, 1);
        Check.send(chappe, 0, 0, 1);
        Check.send(chappe, 0, 0, 2);
        Check.send(chappe, 0, 0, 3);
        chappe.breakDown(0, true);
        Check.sentence(12, "Gives a message to a courier.");
        chappe.courier(1);
        chappe.breakDown(0, false);
        Check.due("all three", chappe.pass(100), 3);
        Check.due("no begin of the courier's", Check.log(chappe, 1, 'r'), "61 1 63 61 3 63");
        Check.due("by arms", chappe.signalAt(2, 0), 3);
        Check.due("by courier", chappe.signalAt(1, 0), 2);
        Check.due("consistent", chappe.isConsistent(), true);
    }

    // ---- 13: doze

    static void dozeOfAMan() {
        ChappeLine chappe = Check.lineOn(9, 0, 4);
        Check.sentence(13, "Sets the doze of a tower.");
        chappe.doze(1, 2);
        Check.send(chappe, 0, 0, 10, 11, 12, 13);
        chappe.pass(300);
        Check.due("of this one", Check.log(chappe, 1, 's'), "61 11 11 12 13 63");
        Check.due("not of the other one", Check.log(chappe, 0, 's'), "61 10 11 12 13 63");
    }

    static void dozeFrom0To9() {
        ChappeLine chappe = Check.lineOn(9, 0, 4);
        Check.sentence(13, "`doze`: the doze, 0 to 9");
        Check.due("the greatest", chappe.doze(0, 9), 0);
        Check.due("the least", chappe.doze(0, 0), 9);
        Check.due("it was set", chappe.doze(0, 1), 0);
    }

    static void dozeBefore() {
        ChappeLine chappe = Check.lineOn(9, 0, 4);
        Check.sentence(13, "Returns the one before.");
        Check.due("0 at first", chappe.doze(1, 6), 0);
        Check.due("the same again", chappe.doze(1, 6), 6);
        Check.due("of this tower", chappe.doze(0, 3), 0);
        chappe.pass(300);
        Check.due("it stays for the day", chappe.doze(1, 5), 6);
    }

    static void dozeOfNoTower() {
        ChappeLine chappe = Check.lineOn(9, 0, 4);
        Check.sentence(13, "Throws `IndexOutOfBoundsException` if there is no such tower");
        for (int tower : Check.outside(0, 1)) {
            Check.refuses("tower " + tower, Check.INDEX, () -> chappe.doze(tower, 1));
        }
    }

    static void dozeOutOfRange() {
        ChappeLine chappe = Check.lineOn(9, 0, 4);
        Check.sentence(13, "Throws `IllegalArgumentException` if it is out of range");
        for (int doze : Check.outside(0, 9)) {
            Check.refuses("doze " + doze, Check.ARGUMENT, () -> chappe.doze(1, doze));
        }
    }

    // ---- 14: bribe

    static void bribeInPlaceOfAnother() {
        ChappeLine chappe = Check.lineOn(9, 0, 4, 8);
        chappe.bribe(1, 5, 6);
        Check.sentence(14, "Bribes a tower, in place of another bribe.");
        chappe.bribe(1, 30, 40);
        Check.send(chappe, 0, 0, 5, 30, 5);
        chappe.pass(300);
        Check.due("by the later one alone", Check.log(chappe, 1, 's'), "61 5 40 5 63");
        Check.due("this tower alone", Check.log(chappe, 0, 's'), "61 5 30 5 63");
        Check.due("and what came", Check.text(chappe, 0), "5 40 5");
    }

    static void bribeReadFrom0To59() {
        ChappeLine chappe = Check.lineOn(9, 0, 4);
        Check.sentence(14, "`read`: the signal that it reads, 0 to 59");
        chappe.bribe(1, 0, 7);
        Check.send(chappe, 0, 0, 7, 0);
        chappe.pass(100);
        Check.due("the least", Check.text(chappe, 0), "7 7");
        chappe.bribe(1, 59, 7);
        Check.send(chappe, 0, 0, 7, 59);
        chappe.pass(100);
        Check.due("the greatest", Check.text(chappe, 1), "7 7");
    }

    static void bribeSetFrom0To59() {
        ChappeLine chappe = Check.lineOn(9, 0, 4);
        Check.sentence(14, "`set`: the signal that it sets, 0 to 59");
        chappe.bribe(1, 7, 0);
        Check.send(chappe, 0, 0, 7, 8);
        chappe.pass(100);
        Check.due("the least", Check.text(chappe, 0), "0 8");
        chappe.bribe(1, 7, 59);
        Check.send(chappe, 0, 0, 7, 8);
        chappe.pass(100);
        Check.due("the greatest", Check.text(chappe, 1), "59 8");
    }

    static void bribeNotUsed() {
        ChappeLine chappe = Check.lineOn(9, 0, 4);
        Check.sentence(14, "Returns true if there was a bribe that was not used.");
        Check.due("none", chappe.bribe(1, 5, 6), false);
        Check.due("not used", chappe.bribe(1, 0, 0), true);
        Check.due("not used either", chappe.bribe(1, 5, 6), true);
        Check.due("of this tower", chappe.bribe(0, 50, 6), false);
        Check.send(chappe, 0, 0, 4, 5);
        chappe.pass(100);
        Check.due("used", chappe.bribe(1, 5, 6), false);
        Check.due("a signal that did not come", chappe.bribe(0, 1, 2), true);
    }

    static void bribeOfNoTower() {
        ChappeLine chappe = Check.lineOn(9, 0, 4);
        Check.sentence(14, "Throws `IndexOutOfBoundsException` if there is no such tower");
        for (int tower : Check.outside(0, 1)) {
            Check.refuses("tower " + tower, Check.INDEX, () -> chappe.bribe(tower, 1, 2));
        }
    }

    static void bribeOutOfRange() {
        ChappeLine chappe = Check.lineOn(9, 0, 4);
        Check.sentence(14, "Throws `IllegalArgumentException` if a signal is out of range");
        for (int signal : Check.outside(0, 59)) {
            Check.refuses("read " + signal, Check.ARGUMENT, () -> chappe.bribe(1, signal, 0));
            Check.refuses("set " + signal, Check.ARGUMENT, () -> chappe.bribe(1, 59, signal));
        }
        Check.due("none of these counts", chappe.bribe(1, 0, 0), false);
    }

    // ---- 15: book

    static void bookWithoutWords() {
        ChappeLine chappe = new ChappeLine();
        chappe.book(3);
        chappe.setWord(0, 5, 50);
        Check.sentence(15, "Writes a book without words.");
        chappe.book(3);
        for (int signal = 0; signal < 60; signal++) {
            Check.due("no word for " + signal, chappe.setWord(1, signal, 1), -1);
        }
    }

    static void bookFrom0To99() {
        ChappeLine chappe = Check.lineOn(9, 0, 4);
        Check.sentence(15, "`day`: the day from which on it holds, 0 to 99");
        Check.due("the greatest", chappe.book(99), 0);
        Check.due("the least", chappe.book(0), 1);
        chappe.setWord(0, 7, 99);
        chappe.setWord(1, 7, 1);
        Check.send(chappe, 0, 0, 7);
        chappe.pass(100);
        Check.due("from day 0 on", chappe.meaning(0, 0), 1);
    }

    static void bookNumbers() {
        ChappeLine chappe = new ChappeLine();
        Check.sentence(15, "Returns the number of the book.");
        Check.due("first", chappe.book(50), 0);
        Check.due("second", chappe.book(50), 1);
        Check.due("third", chappe.book(1), 2);
    }

    static void bookOutOfRange() {
        ChappeLine chappe = new ChappeLine();
        Check.sentence(15, "Throws `IllegalArgumentException` if the day is out of range");
        for (int day : Check.outside(0, 99)) {
            Check.refuses("day " + day, Check.ARGUMENT, () -> chappe.book(day));
        }
    }

    static void fourthBook() {
        ChappeLine chappe = new ChappeLine();
        chappe.book(0);
        chappe.book(0);
        Check.sentence(15, "Throws `IllegalStateException` if there are 3 books");
        Check.due("the third", chappe.book(99), 2);
        Check.refuses("a fourth", Check.STATE, () -> chappe.book(0));
        Check.refuses("a fourth again", Check.STATE, () -> chappe.book(99));
        Check.refuses("and is not there", Check.INDEX, () -> chappe.setWord(3, 0, 0));
    }

    // ---- 16: setWord

    static void wordOfABook() {
        ChappeLine chappe = Check.lineOn(9, 0, 4);
        chappe.book(0);
        Check.send(chappe, 0, 0, 7, 8);
        chappe.pass(100);
        Check.sentence(16, "Sets a word of a book.");
        chappe.setWord(0, 7, 70);
        Check.due("this signal's", chappe.meaning(0, 0), 70);
        Check.refuses("not the other one's", Check.NO_ELEMENT, () -> chappe.meaning(0, 1));
        chappe.setWord(0, 7, 71);
        Check.due("another one", chappe.meaning(0, 0), 71);
    }

    static void wordForSignals0To59() {
        ChappeLine chappe = new ChappeLine();
        chappe.book(0);
        Check.sentence(16, "`signal`: the signal, 0 to 59");
        Check.due("the least", chappe.setWord(0, 0, 1), -1);
        Check.due("the greatest", chappe.setWord(0, 59, 2), -1);
        Check.due("the least again", chappe.setWord(0, 0, 3), 1);
        Check.due("the greatest again", chappe.setWord(0, 59, 3), 2);
    }

    static void wordFrom0To9999() {
        ChappeLine chappe = Check.lineOn(9, 0, 4);
        chappe.book(0);
        Check.send(chappe, 0, 0, 7, 8);
        chappe.pass(100);
        Check.sentence(16, "`word`: the word, 0 to 9999");
        chappe.setWord(0, 7, 0);
        chappe.setWord(0, 8, 9999);
        Check.due("the least is a word", chappe.meaning(0, 0), 0);
        Check.due("the greatest", chappe.meaning(0, 1), 9999);
    }

    static void wordBefore() {
        ChappeLine chappe = new ChappeLine();
        chappe.book(0);
        chappe.book(0);
        Check.sentence(16, "Returns the one before, or -1.");
        Check.due("none", chappe.setWord(0, 30, 9999), -1);
        Check.due("9999", chappe.setWord(0, 30, 0), 9999);
        Check.due("0 is a word", chappe.setWord(0, 30, 5), 0);
        Check.due("another signal", chappe.setWord(0, 31, 1), -1);
        Check.due("another book", chappe.setWord(1, 30, 1), -1);
        Check.due("the same again", chappe.setWord(0, 30, 5), 5);
    }

    static void wordOfNoBook() {
        ChappeLine chappe = new ChappeLine();
        Check.sentence(16, "Throws `IndexOutOfBoundsException` if there is no such book");
        Check.refuses("none at all", Check.INDEX, () -> chappe.setWord(0, 0, 0));
        chappe.book(0);
        chappe.book(0);
        for (int book : Check.outside(0, 1)) {
            Check.refuses("book " + book, Check.INDEX, () -> chappe.setWord(book, 0, 0));
        }
    }

    static void wordOutOfRange() {
        ChappeLine chappe = new ChappeLine();
        chappe.book(0);
        Check.sentence(16, "Throws `IllegalArgumentException` if a number is out of range");
        for (int signal : Check.outside(0, 59)) {
            Check.refuses("signal " + signal, Check.ARGUMENT, () -> chappe.setWord(0, signal, 0));
        }
        for (int word : Check.outside(0, 9999)) {
            Check.refuses("word " + word, Check.ARGUMENT, () -> chappe.setWord(0, 59, word));
        }
        Check.refuses("the signal of an end", Check.ARGUMENT, () -> chappe.setWord(0, 63, 0));
    }
}
