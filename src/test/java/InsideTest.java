import java.lang.reflect.Field;

/**
 * Promise 35 where an invariant is broken. No call makes such a state, so it is made behind the
 * object's back: this test knows the names of fields, and changes with them.
 */
public final class InsideTest {
    public static void main(String[] args) {
        if (isHeldOtherwise()) {
            System.out.println("InsideTest: another class of this face, whose inside is not known here");
            return;
        }
        Check.runAll(InsideTest.class);
    }

    private static boolean isHeldOtherwise() {
        for (Class<?> part : ChappeLine.class.getDeclaredClasses()) {
            if (part.getSimpleName().equals("Replay")) {
                return false;
            }
        }
        return true;
    }

    private static ChappeLine twoMessages() {
        ChappeLine chappe = Check.lineOn(9, 0, 4, 8);
        Check.send(chappe, 0, 0, 1, 2);
        Check.send(chappe, 0, 0, 3);
        chappe.pass(300);
        Check.due("consistent at first", chappe.isConsistent(), true);
        return chappe;
    }

    private static Object inside(Object object, String name) {
        try {
            Field field = object.getClass().getDeclaredField(name);
            field.setAccessible(true);
            return field.get(object);
        } catch (ReflectiveOperationException e) {
            throw new IllegalStateException(e);
        }
    }

    private static int[] logRow(ChappeLine chappe, int tower, String row) {
        return (int[]) inside(inside(((Object[]) inside(chappe, "towers"))[tower], "log"), row);
    }

    private static void changeLog(int tower, String row, int index, int number, boolean isConsistent) {
        ChappeLine chappe = twoMessages();
        logRow(chappe, tower, row)[index] = number;
        Check.due(row + " of tower " + tower + " at " + index, chappe.isConsistent(), isConsistent);
    }

    private static void sentence() {
        Check.sentence(35, "Checks the invariants: logs of a line go on alike, each signal that a tower read "
                + "being the one that the tower ahead of it set at the same place; the log of the last tower, "
                + "read again up to what it delivered, gives all messages of its line as they came; "
                + "and no signal was taken ahead of being shown.");
    }

    static void whatATowerRead() {
        sentence();
        for (int index = 0; index < 7; index++) {
            changeLog(1, "reads", index, 40, false);
            changeLog(2, "reads", index, 40, false);
            changeLog(0, "reads", index, 40, true);
        }
    }

    static void whatATowerSet() {
        sentence();
        for (int index = 0; index < 7; index++) {
            changeLog(0, "sets", index, 41, false);
            changeLog(1, "sets", index, 41, false);
        }
    }

    static void whatTheLastTowerDelivered() {
        sentence();
        // Begin 1 2 end, begin 3 end.
        changeLog(2, "sets", 1, 41, false);
        changeLog(2, "sets", 2, 41, false);
        changeLog(2, "sets", 5, 41, false);
        changeLog(2, "sets", 0, 41, false);
        changeLog(2, "sets", 3, 41, false);
        changeLog(2, "sets", 6, 41, false);
        changeLog(2, "sets", 3, 62, false);
        changeLog(2, "sets", 4, 60, false);
    }

    private static void shortenLog(int tower, int size, boolean isConsistent) {
        ChappeLine chappe = twoMessages();
        Object log = inside(((Object[]) inside(chappe, "towers"))[tower], "log");
        try {
            Field field = log.getClass().getDeclaredField("size");
            field.setAccessible(true);
            field.setInt(log, size);
        } catch (ReflectiveOperationException e) {
            throw new IllegalStateException(e);
        }
        Check.due("log of tower " + tower + " with " + size, chappe.isConsistent(), isConsistent);
    }

    static void lengthsOfLogs() {
        sentence();
        shortenLog(2, 7, true);
        // More than the tower ahead has; less than was delivered.
        shortenLog(0, 6, false);
        shortenLog(1, 6, false);
        shortenLog(2, 6, false);
        shortenLog(2, 0, false);
    }

    static void whatCame() {
        sentence();
        for (int message = 0; message < 2; message++) {
            ChappeLine chappe = twoMessages();
            ((int[]) inside(((Object[]) inside(chappe, "messages"))[message], "arrived"))[0] = 40;
            Check.due("what came of message " + message, chappe.isConsistent(), false);
        }
    }

    static void whenItWasTaken() {
        sentence();
        ChappeLine chappe = twoMessages();
        // The begin is set in five minutes, so it is shown at the end of the minute 5.
        logRow(chappe, 1, "minutes")[0] = 6;
        Check.due("just shown", chappe.isConsistent(), true);
        logRow(chappe, 1, "minutes")[0] = 5;
        Check.due("not shown yet", chappe.isConsistent(), false);
        logRow(chappe, 1, "minutes")[0] = 0;
        Check.due("not set yet", chappe.isConsistent(), false);
    }
}
