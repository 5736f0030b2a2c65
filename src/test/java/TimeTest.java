/** Promises 17 to 21: time, what towers show, and logs. */
public final class TimeTest {
    public static void main(String[] args) {
        pass();
        shows();
        brokenTowers();
        blindTowers();
        logged();
        inLog();
        breakingOff();
        breakingOffTheEnd();
        linesByThemselves();
        longestLog();
        Check.end("TimeTest");
    }

    private static void pass() {
        ChappeLine chappe = Check.lineOn(9, 0, 4);
        Check.refuses("17: 0", Check.ARGUMENT, () -> chappe.pass(0));
        Check.refuses("17: -1", Check.ARGUMENT, () -> chappe.pass(-1));
        Check.refuses("17: 301", Check.ARGUMENT, () -> chappe.pass(301));
        Check.due("18: nothing changed", chappe.minute(), 0);
        Check.due("17: none", chappe.pass(1), 0);
        Check.due("18: one", chappe.minute(), 1);
        Check.due("17: the most", chappe.pass(300), 0);
        Check.due("18: 301", chappe.minute(), 301);
        Check.send(chappe, 0, 0, 61 - 2);
        Check.send(chappe, 0, 0, 59);
        // The second tower takes in 307, 313 and 316, and sets 5, 2 and 1 minutes.
        Check.due("17: both", chappe.pass(40), 2);
        Check.due("26: first", chappe.deliveredAt(0), 317);
        Check.due("26: second", chappe.deliveredAt(1), 325);
    }

    private static void shows() {
        ChappeLine chappe = Check.lineOn(9, 0, 4);
        Check.send(chappe, 0, 0, 0);
        Check.due("19: nothing at first", chappe.shows(0), -1);
        chappe.pass(5);
        Check.due("19: is setting", chappe.shows(0), -1);
        chappe.pass(1);
        Check.due("19: shows after 5 minutes", chappe.shows(0), 61);
        Check.due("19: not taken", chappe.logged(1), 0);
        chappe.pass(1);
        Check.due("19: taken, and the next one put", chappe.shows(0), -1);
        Check.due("19: taken", chappe.logged(1), 1);
        chappe.pass(5);
        Check.due("19: the next one", chappe.shows(0), 0);
        Check.due("19: shown and delivered", chappe.shows(1), 61);
        chappe.pass(300);
        Check.due("19: keeps what was taken", chappe.shows(0), 63);
        Check.due("19: keeps what was delivered", chappe.shows(1), 63);
        Check.refuses("19: tower -1", Check.INDEX, () -> chappe.shows(-1));
        Check.refuses("19: tower 2", Check.INDEX, () -> chappe.shows(2));
    }

    private static void brokenTowers() {
        ChappeLine chappe = Check.lineOn(9, 0, 4);
        Check.send(chappe, 0, 0, 0);
        chappe.pass(3);
        chappe.breakDown(0, true);
        chappe.pass(100);
        Check.due("17: broken while it sets", chappe.shows(0), -1);
        chappe.breakDown(0, false);
        chappe.pass(2);
        Check.due("17: goes on as it was", chappe.shows(0), -1);
        chappe.pass(1);
        Check.due("17: with three minutes left", chappe.shows(0), 61);
        chappe.breakDown(0, true);
        chappe.pass(50);
        Check.due("17: shows while it is broken", chappe.shows(0), 61);
        Check.due("17: is not seen", chappe.logged(1), 0);
        chappe.breakDown(0, false);
        chappe.breakDown(1, true);
        chappe.pass(50);
        Check.due("17: the broken one takes nothing", chappe.logged(1), 0);
        Check.due("17: the first one waits for it", chappe.logged(0), 1);
        chappe.breakDown(1, false);
        Check.due("17: delivered in the end", chappe.pass(100), 1);
    }

    private static void blindTowers() {
        ChappeLine chappe = Check.lineOn(9, 0, 4, 8);
        Check.send(chappe, 0, 0, 3);
        chappe.setGround(6, 20);
        chappe.pass(100);
        Check.due("17: the second one took", chappe.logged(1), 1);
        Check.due("17: the third one sees nothing", chappe.logged(2), 0);
        Check.due("17: the first one goes on by one", chappe.logged(0), 2);
        chappe.setGround(6, 0);
        chappe.setFog(2, 5);
        chappe.pass(100);
        Check.due("17: the third one took", chappe.logged(2), 1);
        Check.due("17: now the second one is blind", chappe.logged(1), 1);
        chappe.setFog(2, 4);
        Check.due("17: delivered in the end", chappe.pass(100), 1);
    }

    private static void logged() {
        ChappeLine chappe = Check.lineOn(9, 0, 4, 8);
        Check.due("20: none", chappe.logged(2), 0);
        Check.send(chappe, 0, 0, 3, 4);
        chappe.pass(13);
        Check.due("20: first", chappe.logged(0), 3);
        Check.due("20: second", chappe.logged(1), 2);
        Check.due("20: third", chappe.logged(2), 1);
        Check.refuses("20: tower -1", Check.INDEX, () -> chappe.logged(-1));
        Check.refuses("20: tower 3", Check.INDEX, () -> chappe.logged(3));
    }

    private static void inLog() {
        ChappeLine chappe = Check.lineOn(9, 0, 4);
        Check.refuses("21: nothing in it", Check.INDEX, () -> chappe.inLog(0, 0, 'r'));
        chappe.bribe(1, 3, 4);
        Check.send(chappe, 0, 0, 3, 3);
        chappe.pass(300);
        // 61 has five bits; it and 3 differ in five, it and 4 in four, 3 and 4 in three.
        Check.due("21: first, read", Check.log(chappe, 0, 'r'), "61 3 3 63");
        Check.due("21: first, set", Check.log(chappe, 0, 's'), "61 3 3 63");
        Check.due("21: first, minutes", Check.log(chappe, 0, 'm'), "0 6 12 17");
        Check.due("21: second, read", Check.log(chappe, 1, 'r'), "61 3 3 63");
        Check.due("21: second, set", Check.log(chappe, 1, 's'), "61 4 3 63");
        Check.due("21: second, minutes", Check.log(chappe, 1, 'm'), "6 12 17 22");
        Check.due("21: delivered", chappe.deliveredAt(0), 26);
        Check.refuses("21: tower -1", Check.INDEX, () -> chappe.inLog(-1, 0, 'r'));
        Check.refuses("21: tower 2", Check.INDEX, () -> chappe.inLog(2, 0, 'r'));
        Check.refuses("21: index -1", Check.INDEX, () -> chappe.inLog(0, -1, 'r'));
        Check.refuses("21: index 4", Check.INDEX, () -> chappe.inLog(0, 4, 'x'));
        Check.refuses("21: what", Check.ARGUMENT, () -> chappe.inLog(0, 3, 'x'));
        Check.refuses("21: a great letter", Check.ARGUMENT, () -> chappe.inLog(0, 3, 'R'));
    }

    private static void breakingOff() {
        ChappeLine chappe = Check.lineOn(9, 0, 4);
        Check.send(chappe, 0, 0, 1, 2);
        chappe.pass(1);
        Check.send(chappe, 0, 0, 3);
        chappe.pass(6);
        Check.due("17: the same rank does not break off", Check.log(chappe, 0, 'r'), "61 1");
        Check.send(chappe, 0, 1, 4);
        Check.send(chappe, 0, 2, 5);
        chappe.pass(300);
        Check.due("17: the order of signals", Check.log(chappe, 0, 'r'),
                "61 1 62 61 5 63 61 4 63 60 2 63 61 3 63");
        Check.due("17: set likewise", Check.log(chappe, 1, 's'), Check.log(chappe, 0, 'r'));
        Check.due("17: all delivered", chappe.state(1), 'd');
        Check.due("17: goes on", chappe.signalAt(0, 1), 2);
        Check.due("17: right", chappe.isRight(0), true);
    }

    private static void breakingOffTheEnd() {
        ChappeLine chappe = Check.lineOn(9, 0, 4);
        Check.send(chappe, 0, 0, 1);
        chappe.pass(7);
        Check.due("17: the text was put", Check.log(chappe, 0, 'r'), "61 1");
        Check.send(chappe, 0, 1, 2);
        chappe.pass(10);
        Check.due("22: in place of the end", chappe.state(0), 'b');
        Check.due("17: suspended", chappe.inLog(0, 2, 'r'), 62);
        chappe.pass(3);
        Check.due("22: the greater one is put", chappe.state(1), 'p');
        Check.send(chappe, 0, 3, 3);
        chappe.pass(300);
        Check.due("17: inner ones too", Check.log(chappe, 1, 'r'), "61 1 62 61 62 61 3 63 60 2 63 60 63");
        Check.due("17: right", chappe.isRight(0), true);
        Check.due("17: inner right", chappe.isRight(1), true);
        Check.due("17: consistent", chappe.isConsistent(), true);
    }

    private static void linesByThemselves() {
        ChappeLine chappe = Check.lineOn(9, 0, 4);
        Check.addLine(chappe, 9, 1, 5);
        Check.send(chappe, 0, 0, 1);
        Check.send(chappe, 1, 3, 2);
        chappe.pass(100);
        Check.due("17: the first line's", Check.log(chappe, 1, 'r'), "61 1 63");
        Check.due("17: the second line's", Check.log(chappe, 3, 'r'), "61 2 63");
        Check.due("17: one of each", chappe.signalAt(1, 0), 2);
    }

    /** The first message is broken off by each of the others. */
    private static void longestLog() {
        ChappeLine chappe = Check.lineOn(9, 0, 1);
        Check.send(chappe, 0, 0, 0, 59, 0, 59, 0, 59, 0, 59, 0, 59, 0, 59);
        chappe.pass(1);
        for (int i = 1; i < 20; i++) {
            Check.send(chappe, 0, 1, 59, 0, 59, 0, 59, 0, 59, 0, 59, 0, 59, i);
            for (int j = 0; j < 300 && chappe.state(i) != 'd'; j++) {
                chappe.pass(1);
            }
            Check.due("17: broken off once more", chappe.state(0), 'p');
        }
        chappe.pass(300);
        Check.due("20: 20 times 14, and 19 times two", chappe.logged(1), 318);
        Check.due("20: ahead of it", chappe.logged(0), 318);
        Check.due("33: all are right", chappe.rightShare(), 1.0f);
        Check.due("21: the last signal", chappe.inLog(1, 317, 's'), 63);
        Check.due("35: consistent", chappe.isConsistent(), true);
    }
}
