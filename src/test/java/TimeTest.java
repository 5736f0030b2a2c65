/** Promises 17 to 21, sentence by sentence: time, what towers show, and logs. */
public final class TimeTest {
    public static void main(String[] args) {
        Check.runAll(TimeTest.class);
    }

    // ---- 17: pass

    static void passMinutes() {
        ChappeLine chappe = Check.lineOn(9, 0, 4);
        Check.send(chappe, 0, 0, 0);
        Check.sentence(17, "Lets minutes go by.");
        chappe.pass(5);
        Check.due("five are too few to show", chappe.shows(0), -1);
        chappe.pass(1);
        Check.due("a sixth", chappe.shows(0), 61);
        Check.due("all count", chappe.minute(), 6);
    }

    static void passIsTheSameInParts() {
        ChappeLine whole = Check.lineOn(9, 0, 4, 8);
        ChappeLine parts = Check.lineOn(9, 0, 4, 8);
        Check.send(whole, 0, 0, 1, 2, 3);
        Check.send(parts, 0, 0, 1, 2, 3);
        Check.sentence(17, "Lets minutes go by.");
        int delivered = 0;
        for (int i = 0; i < 60; i++) {
            delivered += parts.pass(1);
        }
        Check.due("as many", delivered, whole.pass(60));
        Check.due("as late", parts.minute(), whole.minute());
        for (int tower = 0; tower < 3; tower++) {
            Check.due("alike", Check.log(parts, tower, 'm'), Check.log(whole, tower, 'm'));
        }
    }

    static void passFrom1To300() {
        ChappeLine chappe = new ChappeLine();
        Check.sentence(17, "`minutes`: the number of minutes, 1 to 300");
        Check.due("the least", chappe.pass(1), 0);
        Check.due("the minute", chappe.minute(), 1);
        Check.due("the greatest", chappe.pass(300), 0);
        Check.due("the minute then", chappe.minute(), 301);
    }

    static void passCountsDeliveries() {
        ChappeLine chappe = Check.lineOn(9, 0, 4);
        Check.addLine(chappe, 9, 10, 11);
        Check.sentence(17, "Returns how many messages were delivered in these.");
        Check.due("none", chappe.pass(1), 0);
        Check.send(chappe, 0, 0, 59);
        Check.send(chappe, 0, 0, 59);
        Check.send(chappe, 1, 0, 59);
        chappe.breakDown(2, true);
        chappe.courier(2);
        // The first end is shown by the second tower in 1 + 16, the second one 8 later.
        Check.due("up to 16", chappe.pass(16), 0);
        Check.due("in 17", chappe.pass(1), 1);
        Check.due("not again", chappe.pass(7), 0);
        Check.due("in 25 the other one, in 31 the courier's", chappe.pass(7), 2);
        Check.due("all", chappe.pass(300), 0);
    }

    static void passOutOfRange() {
        ChappeLine chappe = new ChappeLine();
        Check.sentence(17, "Throws `IllegalArgumentException` if the number is out of range");
        for (int minutes : Check.outside(1, 300)) {
            Check.refuses("minutes " + minutes, Check.ARGUMENT, () -> chappe.pass(minutes));
        }
        Check.due("none went by", chappe.minute(), 0);
    }

    // ---- 18: minute

    static void minuteThatIsNext() {
        ChappeLine chappe = Check.lineOn(9, 0, 4);
        chappe.pass(8);
        Check.sentence(18, "Returns the minute that is next.");
        int next = chappe.minute();
        Check.send(chappe, 0, 0, 1);
        chappe.pass(1);
        Check.due("it stands in the log", chappe.inLog(0, 0, 'm'), next);
        Check.due("one more is next", chappe.minute(), next + 1);
    }

    static void minuteOverDays() {
        ChappeLine chappe = new ChappeLine();
        Check.sentence(18, "Returns the minute.");
        Check.due("at first", chappe.minute(), 0);
        for (int i = 1; i <= 10; i++) {
            chappe.pass(288);
            Check.due("it goes on over days", chappe.minute(), 288 * i);
        }
        Check.due("asking is no minute", chappe.minute(), 2880);
    }

    // ---- 19: shows

    static void showsASignal() {
        ChappeLine chappe = Check.lineOn(9, 0, 4);
        Check.send(chappe, 0, 0, 0);
        Check.sentence(19, "Returns what a tower shows.");
        chappe.pass(6);
        Check.due("the first one's", chappe.shows(0), 61);
        Check.due("the second one's", chappe.shows(1), -1);
        chappe.pass(6);
        Check.due("the first one's next", chappe.shows(0), 0);
        Check.due("the second one's then", chappe.shows(1), 61);
    }

    static void showsNone() {
        ChappeLine chappe = Check.lineOn(9, 0, 4);
        Check.sentence(19, "Returns the signal, or -1 if it shows none.");
        Check.due("at first", chappe.shows(0), -1);
        Check.send(chappe, 0, 0, 0);
        chappe.pass(5);
        Check.due("is setting", chappe.shows(0), -1);
        chappe.pass(1);
        Check.due("shows", chappe.shows(0), 61);
        chappe.pass(1);
        Check.due("sets the next one", chappe.shows(0), -1);
        chappe.pass(5);
        Check.due("0 is a signal", chappe.shows(0), 0);
        chappe.pass(300);
        Check.due("keeps what was taken", chappe.shows(0), 63);
        Check.due("keeps what was delivered", chappe.shows(1), 63);
    }

    static void showsOfNoTower() {
        ChappeLine chappe = Check.lineOn(9, 0, 4);
        Check.sentence(19, "Throws `IndexOutOfBoundsException` if there is no such tower");
        for (int tower : Check.outside(0, 1)) {
            Check.refuses("tower " + tower, Check.INDEX, () -> chappe.shows(tower));
        }
    }

    // ---- 20: logged

    static void loggedByTowers() {
        ChappeLine chappe = Check.lineOn(9, 0, 4, 8);
        chappe.tower(20, 9);
        Check.sentence(20, "Returns how many signals the log of a tower has.");
        Check.send(chappe, 0, 0, 3, 4);
        chappe.pass(13);
        Check.due("first", chappe.logged(0), 3);
        Check.due("second", chappe.logged(1), 2);
        Check.due("third", chappe.logged(2), 1);
        Check.due("in no line", chappe.logged(3), 0);
    }

    static void loggedGrows() {
        ChappeLine chappe = Check.lineOn(9, 0, 4);
        Check.sentence(20, "Returns the number of signals.");
        Check.due("none", chappe.logged(0), 0);
        Check.send(chappe, 0, 0, 3);
        chappe.pass(1);
        Check.due("as soon as it is put", chappe.logged(0), 1);
        chappe.pass(5);
        Check.due("not yet taken", chappe.logged(1), 0);
        chappe.pass(1);
        Check.due("as soon as it is taken", chappe.logged(1), 1);
        chappe.pass(100);
        Check.due("all of a message", chappe.logged(1), 3);
        Check.send(chappe, 0, 0, 3);
        chappe.pass(100);
        Check.due("of two messages", chappe.logged(1), 6);
    }

    /** The first message is broken off by each of the others. */
    static void loggedAtMost() {
        ChappeLine timed = brokenOffMessage();
        int first = minutesToBreakOff(timed);
        int others = minutesToBreakOff(timed);
        ChappeLine chappe = brokenOffMessage();
        for (int i = 1; i < 20; i++) {
            Check.send(chappe, 0, 1, 59, 0, 59, 0, 59, 0, 59, 0, 59, 0, 59, 0);
            chappe.pass(i == 1 ? first : others);
        }
        Check.sentence(20, "Returns the number of signals.");
        Check.due("the first one goes on in the end", chappe.state(0), 'p');
        chappe.pass(300);
        Check.due("20 times 14, and 19 times two", chappe.logged(1), 318);
        Check.due("ahead of it", chappe.logged(0), 318);
        Check.due("all are right", chappe.rightShare(), 1.0f);
        Check.due("the last signal", chappe.inLog(1, 317, 's'), 63);
        Check.refuses("and no more", Check.INDEX, () -> chappe.inLog(1, 318, 's'));
        Check.due("consistent", chappe.isConsistent(), true);
    }

    private static ChappeLine brokenOffMessage() {
        ChappeLine chappe = Check.lineOn(9, 0, 1);
        Check.send(chappe, 0, 0, 0, 59, 0, 59, 0, 59, 0, 59, 0, 59, 0, 59);
        chappe.pass(1);
        return chappe;
    }

    /** From the put of one that breaks the first message off to the go on of this. */
    private static int minutesToBreakOff(ChappeLine chappe) {
        Check.send(chappe, 0, 1, 59, 0, 59, 0, 59, 0, 59, 0, 59, 0, 59, 0);
        return Check.passWhile(chappe, () -> chappe.state(0) == 'p')
                + Check.passWhile(chappe, () -> chappe.state(0) == 'b');
    }

    static void loggedOfNoTower() {
        ChappeLine chappe = Check.lineOn(9, 0, 4);
        Check.sentence(20, "Throws `IndexOutOfBoundsException` if there is no such tower");
        for (int tower : Check.outside(0, 1)) {
            Check.refuses("tower " + tower, Check.INDEX, () -> chappe.logged(tower));
        }
    }

    // ---- 21: inLog

    static void inLogOfATower() {
        ChappeLine chappe = Check.lineOn(9, 0, 4);
        Check.send(chappe, 0, 0, 3, 4);
        chappe.pass(300);
        Check.sentence(21, "Returns something of a log.");
        Check.due("what was put", Check.log(chappe, 0, 'r'), "61 3 4 63");
        Check.due("what was read", Check.log(chappe, 1, 'r'), "61 3 4 63");
    }

    static void inLogByIndex() {
        ChappeLine chappe = Check.lineOn(9, 0, 4);
        Check.send(chappe, 0, 0, 3, 4);
        chappe.pass(300);
        Check.sentence(21, "`index`: the index, from 0");
        Check.due("the first one", chappe.inLog(1, 0, 'r'), 61);
        Check.due("the second one", chappe.inLog(1, 1, 'r'), 3);
        Check.due("the last one", chappe.inLog(1, 3, 'r'), 63);
    }

    static void inLogByWhat() {
        ChappeLine chappe = Check.lineOn(9, 0, 4);
        chappe.bribe(0, 3, 5);
        chappe.bribe(1, 4, 6);
        Check.send(chappe, 0, 0, 3, 4);
        chappe.pass(300);
        Check.sentence(21, "`what`: 'r' what was read, or was to be put, 's' what was set, 'm' the minute");
        Check.due("what was to be put", Check.log(chappe, 0, 'r'), "61 3 4 63");
        Check.due("what was set for it", Check.log(chappe, 0, 's'), "61 5 4 63");
        Check.due("what was read", Check.log(chappe, 1, 'r'), "61 5 4 63");
        Check.due("what was set then", Check.log(chappe, 1, 's'), "61 5 6 63");
        // 0 and 61 differ in five bits, 61 and 5 in three, 5 and 6 in two, 4 and 63 in five.
        Check.due("in which minutes", Check.log(chappe, 0, 'm'), "0 6 12 16");
        Check.due("in which minutes later", Check.log(chappe, 1, 'm'), "6 12 16 22");
    }

    static void inLogNumber() {
        ChappeLine chappe = Check.lineOn(9, 0, 4);
        chappe.pass(290);
        Check.send(chappe, 0, 0, 59);
        chappe.pass(1);
        Check.sentence(21, "Returns the number.");
        Check.due("a signal", chappe.inLog(0, 0, 's'), 61);
        Check.due("a minute", chappe.inLog(0, 0, 'm'), 290);
    }

    static void inLogNotThere() {
        ChappeLine chappe = Check.lineOn(9, 0, 4);
        Check.sentence(21, "Throws `IndexOutOfBoundsException` if there is no such tower, "
                + "or no such signal in its log");
        Check.refuses("nothing in it", Check.INDEX, () -> chappe.inLog(0, 0, 'r'));
        Check.send(chappe, 0, 0, 3, 3);
        chappe.pass(300);
        Check.due("the last one", chappe.inLog(1, 3, 'r'), 63);
        for (int tower : Check.outside(0, 1)) {
            Check.refuses("tower " + tower, Check.INDEX, () -> chappe.inLog(tower, 0, 'm'));
        }
        for (int index : Check.outside(0, 3)) {
            Check.refuses("index " + index, Check.INDEX, () -> chappe.inLog(1, index, 'r'));
            Check.refuses("index " + index + " of what was set", Check.INDEX, () -> chappe.inLog(1, index, 's'));
            Check.refuses("index " + index + " of minutes", Check.INDEX, () -> chappe.inLog(1, index, 'm'));
        }
    }

    static void inLogNoSuchThing() {
        ChappeLine chappe = Check.lineOn(9, 0, 4);
        Check.send(chappe, 0, 0, 3);
        chappe.pass(300);
        Check.sentence(21, "Throws `IllegalArgumentException` if there is no such thing");
        for (char what = 0; what < 256; what++) {
            char other = what;
            if (what != 'r' && what != 's' && what != 'm') {
                Check.refuses("what " + (int) what, Check.ARGUMENT, () -> chappe.inLog(1, 2, other));
            }
        }
        Check.refuses("what 65535", Check.ARGUMENT, () -> chappe.inLog(1, 2, (char) 65535));
    }
}
