/** Promises 10 to 16: messages, men and books. */
public final class MessageTest {
    public static void main(String[] args) {
        type();
        put();
        putLimits();
        courier();
        courierRefuses();
        courierBetweenOthers();
        courierAtOnce();
        doze();
        dozeByDays();
        dozeCountsTheLog();
        bribe();
        bribeOfTheSame();
        book();
        setWord();
        Check.end("MessageTest");
    }

    private static void type() {
        ChappeLine chappe = Check.lineOn(9, 0, 4);
        Check.refuses("10: -1", Check.ARGUMENT, () -> chappe.type(-1));
        Check.refuses("10: 60", Check.ARGUMENT, () -> chappe.type(60));
        for (int i = 1; i <= 12; i++) {
            Check.due("10: how many", chappe.type(i == 1 ? 0 : 59), i);
        }
        Check.refuses("10: a thirteenth", Check.STATE, () -> chappe.type(0));
        Check.refuses("10: range first", Check.ARGUMENT, () -> chappe.type(60));
        chappe.put(0, 0);
        Check.due("10: a new text", chappe.type(7), 1);
        chappe.pass(300);
        Check.due("10: all came", chappe.came(0), 12);
        Check.due("10: first signal", chappe.signalAt(0, 0), 0);
        Check.due("10: last signal", chappe.signalAt(0, 11), 59);
    }

    private static void put() {
        ChappeLine chappe = Check.lineOn(9, 0, 4);
        Check.addLine(chappe, 9, 8);
        Check.refuses("11: empty", Check.UNSUPPORTED, () -> chappe.put(0, 0));
        chappe.type(5);
        Check.refuses("11: line -1", Check.INDEX, () -> chappe.put(-1, 0));
        Check.refuses("11: line 2", Check.INDEX, () -> chappe.put(2, 4));
        Check.refuses("11: rank -1", Check.ARGUMENT, () -> chappe.put(0, -1));
        Check.refuses("11: rank 4", Check.ARGUMENT, () -> chappe.put(1, 4));
        Check.refuses("11: a short line", Check.UNSUPPORTED, () -> chappe.put(1, 0));
        Check.due("11: the text is kept", chappe.type(6), 2);
        Check.due("11: number", chappe.put(0, 3), 0);
        Check.refuses("11: empty again", Check.UNSUPPORTED, () -> chappe.put(0, 0));
        Check.due("11: waits", chappe.state(0), 'w');
        chappe.pass(1);
        Check.due("11: is put", chappe.state(0), 'p');
    }

    private static void putLimits() {
        ChappeLine chappe = Check.lineOn(9, 0, 4);
        Check.addLine(chappe, 9, 8);
        for (int i = 0; i < 20; i++) {
            Check.due("11: number", Check.send(chappe, 0, i % 4, i), i);
        }
        Check.refuses("11: empty first", Check.UNSUPPORTED, () -> chappe.put(0, 0));
        chappe.type(1);
        Check.refuses("11: short line first", Check.UNSUPPORTED, () -> chappe.put(1, 0));
        Check.refuses("11: a twenty-first", Check.STATE, () -> chappe.put(0, 0));
        Check.due("11: the text is kept", chappe.type(1), 2);
        Check.due("11: all are delivered", Check.passUntil(chappe, 1200), 20);
        Check.due("11: in order of rank", chappe.deliveredAt(19) < chappe.deliveredAt(2), true);
        Check.due("11: then of number", chappe.deliveredAt(2) < chappe.deliveredAt(6), true);
    }

    private static void courier() {
        ChappeLine chappe = Check.lineOn(9, 9, 3, 4);
        int message = Check.send(chappe, 0, 3, 7, 8);
        chappe.pass(0 + 300);
        chappe.breakDown(1, true);
        Check.send(chappe, 0, 1, 7, 9);
        Check.due("12: 30 minutes a cell", chappe.courier(1), 300 + 30 * 5);
        Check.due("12: on its way", chappe.state(1), 'c');
        Check.due("12: nothing came", chappe.came(1), 0);
        Check.refuses("12: no signal came", Check.INDEX, () -> chappe.signalAt(1, 0));
        Check.due("12: not yet", chappe.pass(150), 0);
        Check.due("12: still on its way", chappe.state(1), 'c');
        Check.due("12: at the end of this minute", chappe.pass(1), 1);
        Check.due("12: delivered", chappe.state(1), 'd');
        Check.due("12: when", chappe.deliveredAt(1), 450);
        Check.due("12: right", chappe.isRight(1), true);
        Check.due("12: came", chappe.came(1), 2);
        Check.due("12: last signal", chappe.signalAt(1, 1), 9);
        Check.due("12: none in logs", chappe.logged(0), chappe.logged(2));
        Check.due("12: the other was told by arms", chappe.bill(message), 16);
        Check.due("12: consistent", chappe.isConsistent(), true);
    }

    private static void courierRefuses() {
        ChappeLine chappe = Check.lineOn(9, 0, 4);
        Check.refuses("12: message -1", Check.INDEX, () -> chappe.courier(-1));
        Check.refuses("12: message 0", Check.INDEX, () -> chappe.courier(0));
        Check.send(chappe, 0, 0, 7, 8);
        Check.refuses("12: not blind", Check.STATE, () -> chappe.courier(0));
        chappe.setFog(4, 9);
        chappe.pass(1);
        Check.refuses("12: being put", Check.UNSUPPORTED, () -> chappe.courier(0));
        chappe.setFog(4, 0);
        Check.send(chappe, 0, 1, 9);
        chappe.pass(6);
        Check.due("12: broken off", chappe.state(0), 'b');
        chappe.setFog(4, 9);
        Check.refuses("12: was begun", Check.UNSUPPORTED, () -> chappe.courier(0));
        Check.due("12: the new one", chappe.courier(1), 7 + 120);
        Check.refuses("12: again", Check.UNSUPPORTED, () -> chappe.courier(1));
        chappe.setFog(4, 0);
        Check.refuses("12: state first", Check.UNSUPPORTED, () -> chappe.courier(1));
        chappe.pass(300);
        Check.refuses("12: delivered", Check.UNSUPPORTED, () -> chappe.courier(1));
        Check.due("12: the broken one goes on", chappe.state(0), 'd');
    }

    private static void courierBetweenOthers() {
        ChappeLine chappe = Check.lineOn(9, 0, 1);
        Check.send(chappe, 0, 0, 1);
        Check.send(chappe, 0, 0, 2);
        Check.send(chappe, 0, 0, 3);
        chappe.breakDown(0, true);
        chappe.courier(1);
        chappe.breakDown(0, false);
        Check.due("12: all three", chappe.pass(100), 3);
        Check.due("12: no begin of the courier's", Check.log(chappe, 1, 'r'), "61 1 63 61 3 63");
        Check.due("12: by arms", chappe.signalAt(2, 0), 3);
        Check.due("12: by courier", chappe.signalAt(1, 0), 2);
        Check.due("12: consistent", chappe.isConsistent(), true);
    }

    private static void courierAtOnce() {
        ChappeLine chappe = Check.lineOn(9, 23, 0);
        Check.send(chappe, 0, 2, 1);
        Check.due("12: the first message, backwards", chappe.courier(0), 690);
        Check.due("12: waits no more", chappe.pass(300), 0);
        Check.due("12: delivered", Check.passUntil(chappe, 691), 1);
        Check.due("12: logs have none", chappe.signals(), 0L);
        Check.due("12: a bill", chappe.bill(0), 50);
        Check.due("12: share", chappe.rightShare(), 1.0f);
        Check.refuses("12: none to blame", Check.NO_ELEMENT, () -> chappe.blame(0));
    }

    private static void doze() {
        ChappeLine chappe = Check.lineOn(9, 0, 4);
        Check.due("13: first", chappe.doze(1, 9), 0);
        Check.due("13: again", chappe.doze(1, 2), 9);
        Check.refuses("13: tower -1", Check.INDEX, () -> chappe.doze(-1, 0));
        Check.refuses("13: tower 2", Check.INDEX, () -> chappe.doze(2, 10));
        Check.refuses("13: doze -1", Check.ARGUMENT, () -> chappe.doze(1, -1));
        Check.refuses("13: doze 10", Check.ARGUMENT, () -> chappe.doze(1, 10));
        Check.send(chappe, 0, 0, 10, 11, 12, 13);
        chappe.pass(300);
        Check.due("13: less than 2 and odd", Check.log(chappe, 1, 's'), "61 11 11 12 13 63");
        Check.due("13: what it read", Check.log(chappe, 1, 'r'), "61 10 11 12 13 63");
        Check.due("13: the other one", Check.log(chappe, 0, 's'), "61 10 11 12 13 63");
        Check.due("13: wrong", chappe.isRight(0), false);
        Check.due("13: nothing changed", chappe.doze(1, 0), 2);
    }

    private static void dozeByDays() {
        ChappeLine chappe = Check.lineOn(9, 0, 4);
        chappe.tower(20, 3);
        chappe.doze(0, 1);
        chappe.doze(1, 5);
        chappe.doze(2, 9);
        Check.passUntil(chappe, 1439);
        Check.due("13: day 0", chappe.doze(1, 5), 5);
        Check.passUntil(chappe, 1441);
        Check.due("13: day 1", chappe.doze(1, 4), 4);
        Check.due("13: in no line", chappe.doze(2, 8), 8);
        Check.passUntil(chappe, 2879);
        Check.due("13: still day 1", chappe.doze(1, 4), 4);
        chappe.breakDown(1, true);
        Check.passUntil(chappe, 2881);
        Check.due("13: day 2", chappe.doze(1, 0), 3);
        Check.due("13: at least 0", chappe.doze(0, 0), 0);
    }

    private static void dozeCountsTheLog() {
        ChappeLine chappe = Check.lineOn(9, 0, 1);
        chappe.doze(0, 9);
        Check.send(chappe, 0, 0, 20, 20, 20, 20, 20, 20, 20, 20, 20, 20, 20, 20);
        Check.due("13: delivered", chappe.pass(300), 1);
        Check.due("13: each odd place but the ninth", Check.log(chappe, 0, 's'),
                "61 21 20 21 20 21 20 21 20 20 20 21 20 63");
        chappe.doze(0, 0);
        chappe.doze(1, 4);
        Check.send(chappe, 0, 0, 59, 58, 0, 1);
        chappe.pass(300);
        Check.due("13: modulo 10", Check.log(chappe, 1, 's'),
                "61 21 20 21 20 21 20 21 20 20 20 21 20 63 61 59 58 0 1 63");
        chappe.doze(1, 9);
        Check.send(chappe, 0, 0, 59, 58, 0, 1);
        chappe.pass(300);
        Check.due("13: the lowest bit", Check.log(chappe, 1, 's'),
                "61 21 20 21 20 21 20 21 20 20 20 21 20 63 61 59 58 0 1 63 61 58 58 1 1 63");
        Check.due("13: consistent", chappe.isConsistent(), true);
    }

    private static void bribe() {
        ChappeLine chappe = Check.lineOn(9, 0, 4, 8);
        Check.due("14: first", chappe.bribe(1, 5, 6), false);
        Check.due("14: in place of another", chappe.bribe(1, 30, 40), true);
        Check.refuses("14: tower -1", Check.INDEX, () -> chappe.bribe(-1, 0, 0));
        Check.refuses("14: tower 3", Check.INDEX, () -> chappe.bribe(3, 60, 0));
        Check.refuses("14: read -1", Check.ARGUMENT, () -> chappe.bribe(1, -1, 0));
        Check.refuses("14: read 60", Check.ARGUMENT, () -> chappe.bribe(1, 60, 0));
        Check.refuses("14: set -1", Check.ARGUMENT, () -> chappe.bribe(1, 0, -1));
        Check.refuses("14: set 60", Check.ARGUMENT, () -> chappe.bribe(1, 0, 60));
        Check.send(chappe, 0, 0, 5, 30, 30);
        chappe.pass(300);
        Check.due("14: once", Check.log(chappe, 1, 's'), "61 5 40 30 63");
        Check.due("14: the next one reads that", Check.log(chappe, 2, 'r'), "61 5 40 30 63");
        Check.due("14: used", chappe.bribe(1, 0, 59), false);
        Check.due("14: the first tower too", chappe.bribe(0, 59, 0), false);
        Check.send(chappe, 0, 0, 59);
        chappe.pass(300);
        Check.due("14: what it put", chappe.inLog(0, 6, 's'), 0);
        Check.due("14: what was to be put", chappe.inLog(0, 6, 'r'), 59);
        Check.due("14: set back", chappe.signalAt(1, 0), 59);
        Check.due("14: right all the same", chappe.isRight(1), true);
        Check.due("14: to blame all the same", chappe.blame(1), 0);
    }

    private static void bribeOfTheSame() {
        ChappeLine chappe = Check.lineOn(9, 0, 4);
        chappe.doze(1, 9);
        chappe.bribe(1, 12, 12);
        Check.send(chappe, 0, 0, 12, 14, 12);
        chappe.pass(300);
        Check.due("14: without dozing, once", Check.log(chappe, 1, 's'), "61 12 14 13 63");
        Check.due("14: used", chappe.bribe(1, 20, 30), false);
        Check.send(chappe, 0, 0, 20, 20);
        chappe.pass(300);
        Check.due("14: what it sets is not turned", chappe.inLog(1, 6, 's'), 30);
        Check.due("14: the next one is awake", chappe.inLog(1, 7, 's'), 21);
    }

    private static void book() {
        ChappeLine chappe = new ChappeLine();
        Check.refuses("15: day -1", Check.ARGUMENT, () -> chappe.book(-1));
        Check.refuses("15: day 100", Check.ARGUMENT, () -> chappe.book(100));
        Check.due("15: first", chappe.book(99), 0);
        Check.due("15: second", chappe.book(0), 1);
        Check.due("15: third", chappe.book(0), 2);
        Check.refuses("15: a fourth", Check.STATE, () -> chappe.book(0));
        Check.refuses("15: range first", Check.ARGUMENT, () -> chappe.book(100));
        Check.due("15: without words", chappe.setWord(2, 0, 0), -1);
    }

    private static void setWord() {
        ChappeLine chappe = new ChappeLine();
        Check.refuses("16: no book", Check.INDEX, () -> chappe.setWord(0, 60, 0));
        chappe.book(0);
        chappe.book(0);
        Check.due("16: first", chappe.setWord(0, 0, 9999), -1);
        Check.due("16: again", chappe.setWord(0, 0, 0), 9999);
        Check.due("16: 0 is a word", chappe.setWord(0, 0, 5), 0);
        Check.due("16: another signal", chappe.setWord(0, 59, 1), -1);
        Check.due("16: another book", chappe.setWord(1, 0, 1), -1);
        Check.refuses("16: book -1", Check.INDEX, () -> chappe.setWord(-1, 0, 0));
        Check.refuses("16: book 2", Check.INDEX, () -> chappe.setWord(2, 0, 0));
        Check.refuses("16: signal -1", Check.ARGUMENT, () -> chappe.setWord(0, -1, 0));
        Check.refuses("16: signal 60", Check.ARGUMENT, () -> chappe.setWord(0, 60, 0));
        Check.refuses("16: word -1", Check.ARGUMENT, () -> chappe.setWord(0, 0, -1));
        Check.refuses("16: word 10000", Check.ARGUMENT, () -> chappe.setWord(0, 0, 10000));
        Check.due("16: nothing changed", chappe.setWord(0, 0, 0), 5);
    }
}
