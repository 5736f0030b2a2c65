/** What is thrown where several conditions hold, and that a refused call changes nothing. */
public final class RefusalTest {
    private static final String FIRST_LISTED = "If several conditions for an exception hold, the exception that is "
            + "listed first is thrown.";
    private static final String NOTHING_CHANGED = "A method that throws an exception changes nothing.";

    public static void main(String[] args) {
        Check.runAll(RefusalTest.class);
    }

    private interface Refused {
        Object call(ChappeLine chappe);
    }

    // ---- the exception that is listed first

    static void firstOfLand() {
        ChappeLine chappe = new ChappeLine();
        Check.sentence(0, FIRST_LISTED);
        Check.refuses("setGround: cell, height", Check.INDEX, () -> chappe.setGround(-1, 51));
        Check.refuses("setGround: cell, height", Check.INDEX, () -> chappe.setGround(24, -1));
        Check.refuses("setFog: cell, fog", Check.INDEX, () -> chappe.setFog(-1, -1));
        Check.refuses("setFog: cell, fog", Check.INDEX, () -> chappe.setFog(24, 10));
    }

    static void firstOfTower() {
        ChappeLine chappe = new ChappeLine();
        chappe.tower(0, 1);
        Check.sentence(0, FIRST_LISTED);
        Check.refuses("cell, height", Check.INDEX, () -> chappe.tower(24, 0));
        Check.refuses("height, built on", Check.ARGUMENT, () -> chappe.tower(0, 31));
        for (int i = 1; i < 12; i++) {
            chappe.tower(i, 1);
        }
        Check.refuses("cell, height, 12 towers", Check.INDEX, () -> chappe.tower(-1, 31));
        Check.refuses("cell, 12 towers", Check.INDEX, () -> chappe.tower(24, 1));
        Check.refuses("height, built on, 12 towers", Check.ARGUMENT, () -> chappe.tower(0, 0));
        Check.refuses("height, 12 towers", Check.ARGUMENT, () -> chappe.tower(12, 31));
        Check.refuses("built on, 12 towers", Check.UNSUPPORTED, () -> chappe.tower(11, 1));
        Check.refuses("12 towers", Check.STATE, () -> chappe.tower(12, 1));
    }

    static void firstOfExtend() {
        ChappeLine chappe = Check.lineOn(9, 0, 1);
        chappe.tower(2, 9);
        Check.send(chappe, 0, 0, 1);
        Check.sentence(0, FIRST_LISTED);
        Check.refuses("no line, in a line", Check.INDEX, () -> chappe.extend(1, 0));
        Check.refuses("no tower, has a message", Check.INDEX, () -> chappe.extend(0, 3));
        Check.refuses("no line, no tower", Check.INDEX, () -> chappe.extend(-1, -1));
        Check.refuses("in a line, has a message", Check.UNSUPPORTED, () -> chappe.extend(0, 1));
        Check.refuses("has a message", Check.STATE, () -> chappe.extend(0, 2));
    }

    static void firstOfSees() {
        ChappeLine chappe = Check.lineOn(9, 0, 1);
        Check.sentence(0, FIRST_LISTED);
        Check.refuses("no tower, the same", Check.INDEX, () -> chappe.sees(2, 2, true));
        Check.refuses("no tower, the same", Check.INDEX, () -> chappe.sees(-1, -1, false));
    }

    static void firstOfType() {
        ChappeLine chappe = new ChappeLine();
        Check.type(chappe, 1, 2, 3, 4, 5, 6, 7, 8, 9, 10, 11, 12);
        Check.sentence(0, FIRST_LISTED);
        Check.refuses("range, 12 signals", Check.ARGUMENT, () -> chappe.type(60));
        Check.refuses("range, 12 signals", Check.ARGUMENT, () -> chappe.type(-1));
    }

    static void firstOfPut() {
        ChappeLine chappe = Check.lineOn(9, 0, 1);
        Check.addLine(chappe, 9, 10);
        Check.sentence(0, FIRST_LISTED);
        Check.refuses("no line, rank, empty", Check.INDEX, () -> chappe.put(2, 4));
        Check.refuses("no line, empty", Check.INDEX, () -> chappe.put(-1, 0));
        Check.refuses("rank, empty", Check.ARGUMENT, () -> chappe.put(0, 4));
        Check.refuses("rank, empty, short line", Check.ARGUMENT, () -> chappe.put(1, -1));
        for (int i = 0; i < 20; i++) {
            Check.send(chappe, 0, 0, i);
        }
        Check.refuses("empty, 20 messages", Check.UNSUPPORTED, () -> chappe.put(0, 0));
        chappe.type(1);
        Check.refuses("no line, rank, 20 messages", Check.INDEX, () -> chappe.put(2, -1));
        Check.refuses("no line, 20 messages", Check.INDEX, () -> chappe.put(2, 0));
        Check.refuses("rank, short line, 20 messages", Check.ARGUMENT, () -> chappe.put(1, 4));
        Check.refuses("rank, 20 messages", Check.ARGUMENT, () -> chappe.put(0, 4));
        Check.refuses("short line, 20 messages", Check.UNSUPPORTED, () -> chappe.put(1, 0));
        Check.refuses("20 messages", Check.STATE, () -> chappe.put(0, 0));
    }

    static void firstOfCourier() {
        ChappeLine chappe = Check.lineOn(9, 0, 1);
        Check.send(chappe, 0, 0, 1);
        chappe.pass(1);
        Check.sentence(0, FIRST_LISTED);
        Check.refuses("being put, not blind", Check.UNSUPPORTED, () -> chappe.courier(0));
        chappe.pass(100);
        Check.refuses("delivered, not blind", Check.UNSUPPORTED, () -> chappe.courier(0));
        Check.refuses("no message", Check.INDEX, () -> chappe.courier(1));
    }

    static void firstOfMenAndBooks() {
        ChappeLine chappe = Check.lineOn(9, 0, 1);
        Check.sentence(0, FIRST_LISTED);
        Check.refuses("doze: no tower, range", Check.INDEX, () -> chappe.doze(2, 10));
        Check.refuses("doze: no tower, range", Check.INDEX, () -> chappe.doze(-1, -1));
        Check.refuses("bribe: no tower, both signals", Check.INDEX, () -> chappe.bribe(2, 60, 60));
        Check.refuses("bribe: no tower, a signal", Check.INDEX, () -> chappe.bribe(-1, 0, -1));
        Check.refuses("setWord: no book, both numbers", Check.INDEX, () -> chappe.setWord(0, 60, 10000));
        for (int i = 0; i < 3; i++) {
            chappe.book(0);
        }
        Check.refuses("setWord: no book, a number", Check.INDEX, () -> chappe.setWord(3, 0, -1));
        Check.refuses("book: range, 3 books", Check.ARGUMENT, () -> chappe.book(100));
        Check.refuses("book: range, 3 books", Check.ARGUMENT, () -> chappe.book(-1));
    }

    static void firstOfLogsAndFates() {
        ChappeLine chappe = Check.lineOn(9, 0, 1);
        Check.send(chappe, 0, 0, 7);
        Check.sentence(0, FIRST_LISTED);
        Check.refuses("inLog: no tower, thing", Check.INDEX, () -> chappe.inLog(2, 0, 'x'));
        Check.refuses("inLog: no signal, thing", Check.INDEX, () -> chappe.inLog(0, 0, 'x'));
        Check.refuses("meaning: no signal, no book", Check.INDEX, () -> chappe.meaning(0, 0));
        Check.refuses("meaning: no message, no book", Check.INDEX, () -> chappe.meaning(1, 0));
        Check.refuses("deliveredAt: no message", Check.INDEX, () -> chappe.deliveredAt(1));
        Check.refuses("isRight: no message", Check.INDEX, () -> chappe.isRight(1));
        Check.refuses("blame: no message", Check.INDEX, () -> chappe.blame(1));
    }

    static void firstOfPlan() {
        ChappeLine chappe = new ChappeLine();
        Check.sentence(0, FIRST_LISTED);
        Check.refuses("from, height", Check.INDEX, () -> chappe.plan(-1, 5, 0));
        Check.refuses("to, height", Check.INDEX, () -> chappe.plan(5, 24, 31));
        Check.refuses("both, the same, height", Check.INDEX, () -> chappe.plan(24, 24, 0));
        Check.refuses("height, the same", Check.ARGUMENT, () -> chappe.plan(5, 5, 0));
    }

    // ---- a refused call changes nothing

    /** Something of everything: 7 towers, 3 lines, 4 messages in four states, 2 books, a text and a plan. */
    private static ChappeLine stage() {
        ChappeLine chappe = Check.lineOn(9, 0, 4, 8);
        Check.addLine(chappe, 9, 12, 16);
        Check.addLine(chappe, 9, 20);
        chappe.tower(23, 5);
        chappe.setGround(2, 3);
        chappe.setFog(5, 2);
        chappe.book(0);
        chappe.setWord(0, 7, 70);
        chappe.setWord(0, 6, 60);
        chappe.book(1);
        chappe.bribe(1, 9, 8);
        chappe.doze(2, 3);
        Check.send(chappe, 0, 0, 7, 8, 9);
        chappe.pass(7);
        Check.send(chappe, 0, 2, 10);
        chappe.breakDown(4, true);
        Check.send(chappe, 1, 1, 11);
        Check.send(chappe, 1, 0, 12);
        chappe.courier(2);
        Check.type(chappe, 13, 14);
        chappe.plan(0, 9, 1);
        chappe.breakDown(6, true);
        chappe.pass(20);
        return chappe;
    }

    /** As many of everything as there can be. */
    private static ChappeLine fullStage() {
        ChappeLine chappe = stage();
        chappe.put(0, 1);
        for (int i = 0; i < 5; i++) {
            chappe.tower(2 * i + 1, 1);
        }
        chappe.line();
        chappe.book(0);
        for (int i = 5; i < 20; i++) {
            Check.send(chappe, 0, 0, 3);
        }
        Check.type(chappe, 1, 2, 3, 4, 5, 6, 7, 8, 9, 10, 11, 12);
        return chappe;
    }

    private static void changesNothing(String what, Class<? extends RuntimeException> kind, Refused refused) {
        changesNothing(what, kind, refused, false);
    }

    private static void changesNothing(String what, Class<? extends RuntimeException> kind, Refused refused,
            boolean isFull) {
        ChappeLine asked = isFull ? fullStage() : stage();
        ChappeLine twin = isFull ? fullStage() : stage();
        Check.refuses(what, kind, () -> refused.call(asked));
        Check.due(what + ", at once", new Picture(asked).toString(), new Picture(twin).toString());
        ChappeLine later = isFull ? fullStage() : stage();
        ChappeLine laterTwin = isFull ? fullStage() : stage();
        Check.refuses(what + ", again", kind, () -> refused.call(later));
        goOn(later);
        goOn(laterTwin);
        Check.due(what + ", later", new Picture(later).toString(), new Picture(laterTwin).toString());
    }

    private static void goOn(ChappeLine chappe) {
        Check.answer(() -> chappe.put(0, 1));
        chappe.breakDown(4, false);
        Check.answer(() -> chappe.extend(2, 6));
        chappe.pass(300);
    }

    static void refusedLand() {
        Check.sentence(0, NOTHING_CHANGED);
        changesNothing("setGround: cell", Check.INDEX, chappe -> chappe.setGround(24, 5));
        changesNothing("setGround: height", Check.ARGUMENT, chappe -> chappe.setGround(2, 51));
        changesNothing("setGround: height", Check.ARGUMENT, chappe -> chappe.setGround(2, -1));
        changesNothing("setFog: cell", Check.INDEX, chappe -> chappe.setFog(-1, 5));
        changesNothing("setFog: fog", Check.ARGUMENT, chappe -> chappe.setFog(5, 10));
        changesNothing("setFog: fog", Check.ARGUMENT, chappe -> chappe.setFog(5, -1));
    }

    static void refusedTowersAndLines() {
        Check.sentence(0, NOTHING_CHANGED);
        changesNothing("tower: cell", Check.INDEX, chappe -> chappe.tower(24, 5));
        changesNothing("tower: height", Check.ARGUMENT, chappe -> chappe.tower(1, 31));
        changesNothing("tower: built on", Check.UNSUPPORTED, chappe -> chappe.tower(4, 1));
        changesNothing("tower: 12 towers", Check.STATE, chappe -> chappe.tower(22, 1), true);
        changesNothing("breakDown: tower", Check.INDEX, chappe -> chappe.breakDown(7, true));
        changesNothing("line: 4 lines", Check.STATE, chappe -> chappe.line(), true);
        changesNothing("extend: line", Check.INDEX, chappe -> chappe.extend(3, 6));
        changesNothing("extend: tower", Check.INDEX, chappe -> chappe.extend(2, 7));
        changesNothing("extend: in a line", Check.UNSUPPORTED, chappe -> chappe.extend(2, 0));
        changesNothing("extend: has messages", Check.STATE, chappe -> chappe.extend(0, 6));
        changesNothing("sees: tower", Check.INDEX, chappe -> chappe.sees(0, 7, true));
        changesNothing("sees: the same", Check.ARGUMENT, chappe -> chappe.sees(0, 0, false));
        changesNothing("isBlind: line", Check.INDEX, chappe -> chappe.isBlind(3));
    }

    static void refusedMessages() {
        Check.sentence(0, NOTHING_CHANGED);
        changesNothing("type: range", Check.ARGUMENT, chappe -> chappe.type(60));
        changesNothing("type: 12 signals", Check.STATE, chappe -> chappe.type(5), true);
        changesNothing("put: line", Check.INDEX, chappe -> chappe.put(3, 0));
        changesNothing("put: rank", Check.ARGUMENT, chappe -> chappe.put(0, 4));
        changesNothing("put: one tower", Check.UNSUPPORTED, chappe -> chappe.put(2, 0));
        changesNothing("put: 20 messages", Check.STATE, chappe -> chappe.put(0, 3), true);
        changesNothing("courier: message", Check.INDEX, chappe -> chappe.courier(4));
        changesNothing("courier: with a courier", Check.UNSUPPORTED, chappe -> chappe.courier(2));
        changesNothing("courier: was begun", Check.UNSUPPORTED, chappe -> chappe.courier(0));
        changesNothing("courier: not blind", Check.STATE, chappe -> chappe.courier(19), true);
    }

    static void refusedPutOfNoText() {
        Check.sentence(0, NOTHING_CHANGED);
        ChappeLine asked = stage();
        ChappeLine twin = stage();
        asked.put(0, 0);
        twin.put(0, 0);
        Check.refuses("put: empty", Check.UNSUPPORTED, () -> asked.put(0, 3));
        goOn(asked);
        goOn(twin);
        Check.due("put: empty, later", new Picture(asked).toString(), new Picture(twin).toString());
    }

    static void refusedMenAndBooks() {
        Check.sentence(0, NOTHING_CHANGED);
        changesNothing("doze: tower", Check.INDEX, chappe -> chappe.doze(7, 5));
        changesNothing("doze: range", Check.ARGUMENT, chappe -> chappe.doze(2, 10));
        changesNothing("bribe: tower", Check.INDEX, chappe -> chappe.bribe(7, 9, 1));
        changesNothing("bribe: read", Check.ARGUMENT, chappe -> chappe.bribe(1, 60, 1));
        changesNothing("bribe: set", Check.ARGUMENT, chappe -> chappe.bribe(1, 9, 60));
        changesNothing("bribe: read of another", Check.ARGUMENT, chappe -> chappe.bribe(0, -1, 1));
        changesNothing("bribe: set of another", Check.ARGUMENT, chappe -> chappe.bribe(2, 10, -1));
        changesNothing("book: range", Check.ARGUMENT, chappe -> chappe.book(100));
        changesNothing("book: 3 books", Check.STATE, chappe -> chappe.book(0), true);
        changesNothing("setWord: book", Check.INDEX, chappe -> chappe.setWord(2, 7, 1));
        changesNothing("setWord: signal", Check.ARGUMENT, chappe -> chappe.setWord(0, 60, 1));
        changesNothing("setWord: word", Check.ARGUMENT, chappe -> chappe.setWord(0, 7, 10000));
        changesNothing("setWord: word", Check.ARGUMENT, chappe -> chappe.setWord(0, 7, -1));
    }

    static void refusedTime() {
        Check.sentence(0, NOTHING_CHANGED);
        changesNothing("pass: 0", Check.ARGUMENT, chappe -> chappe.pass(0));
        changesNothing("pass: 301", Check.ARGUMENT, chappe -> chappe.pass(301));
        changesNothing("shows: tower", Check.INDEX, chappe -> chappe.shows(7));
        changesNothing("logged: tower", Check.INDEX, chappe -> chappe.logged(-1));
        changesNothing("inLog: tower", Check.INDEX, chappe -> chappe.inLog(7, 0, 'r'));
        changesNothing("inLog: index", Check.INDEX, chappe -> chappe.inLog(0, 99, 'r'));
        changesNothing("inLog: thing", Check.ARGUMENT, chappe -> chappe.inLog(0, 0, 'x'));
    }

    static void refusedFates() {
        Check.sentence(0, NOTHING_CHANGED);
        changesNothing("state: message", Check.INDEX, chappe -> chappe.state(4));
        changesNothing("came: message", Check.INDEX, chappe -> chappe.came(4));
        changesNothing("signalAt: message", Check.INDEX, chappe -> chappe.signalAt(4, 0));
        changesNothing("signalAt: index", Check.INDEX, chappe -> chappe.signalAt(3, 0));
        changesNothing("meaning: index", Check.INDEX, chappe -> chappe.meaning(3, 0));
        changesNothing("deliveredAt: message", Check.INDEX, chappe -> chappe.deliveredAt(4));
        changesNothing("deliveredAt: not yet", Check.NO_ELEMENT, chappe -> chappe.deliveredAt(3));
        changesNothing("isRight: message", Check.INDEX, chappe -> chappe.isRight(4));
        changesNothing("isRight: not yet", Check.NO_ELEMENT, chappe -> chappe.isRight(3));
        changesNothing("blame: message", Check.INDEX, chappe -> chappe.blame(4));
        changesNothing("blame: nobody", Check.NO_ELEMENT, chappe -> chappe.blame(3));
        changesNothing("bill: message", Check.INDEX, chappe -> chappe.bill(4));
    }

    static void refusedMeaning() {
        Check.sentence(0, NOTHING_CHANGED);
        ChappeLine asked = stage();
        ChappeLine twin = stage();
        asked.pass(300);
        twin.pass(300);
        Check.due("a word for the 7 that was turned", asked.meaning(0, 0), 60);
        Check.refuses("no word", Check.NO_ELEMENT, () -> asked.meaning(0, 1));
        twin.meaning(0, 0);
        Check.due("meaning, later", new Picture(asked).toString(), new Picture(twin).toString());
    }

    static void refusedPlans() {
        Check.sentence(0, NOTHING_CHANGED);
        changesNothing("plan: from", Check.INDEX, chappe -> chappe.plan(24, 5, 1));
        changesNothing("plan: to", Check.INDEX, chappe -> chappe.plan(5, -1, 1));
        changesNothing("plan: height", Check.ARGUMENT, chappe -> chappe.plan(5, 20, 31));
        changesNothing("plan: the same", Check.ARGUMENT, chappe -> chappe.plan(5, 5, 1));
        changesNothing("planned: index", Check.INDEX, chappe -> chappe.planned(3));
    }

    static void refusedFigures() {
        Check.sentence(0, NOTHING_CHANGED);
        changesNothing("rightShare: none", Check.ARITHMETIC, chappe -> chappe.rightShare());
        changesNothing("meanMinutes: none", Check.ARITHMETIC, chappe -> chappe.meanMinutes());
    }
}
