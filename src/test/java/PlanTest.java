import java.lang.reflect.Field;

/** Promises 30 to 35: planning and figures. */
public final class PlanTest {
    public static void main(String[] args) {
        planOnFlatLand();
        planByGround();
        planBeyondTheEnds();
        planRefuses();
        signals();
        rightShare();
        meanMinutes();
        isConsistent();
        isNotConsistent();
        Check.end("PlanTest");
    }

    private static String cells(ChappeLine chappe, int size) {
        StringBuilder row = new StringBuilder();
        for (int i = 0; i < size; i++) {
            row.append(i == 0 ? "" : " ").append(chappe.planned(i));
        }
        return row.toString();
    }

    private static void planOnFlatLand() {
        ChappeLine chappe = new ChappeLine();
        Check.due("30: two towers", chappe.plan(0, 8, 1), 2);
        Check.due("31: both", cells(chappe, 2), "0 8");
        Check.refuses("31: no third", Check.INDEX, () -> chappe.planned(2));
        Check.refuses("31: -1", Check.INDEX, () -> chappe.planned(-1));
        Check.due("30: three towers", chappe.plan(0, 9, 1), 3);
        Check.due("31: the lowest", cells(chappe, 3), "0 1 9");
        Check.due("30: back", chappe.plan(9, 0, 30), 3);
        Check.due("31: the lowest back", cells(chappe, 3), "9 1 0");
        Check.due("30: all along", chappe.plan(0, 23, 1), 4);
        Check.due("31: the first ones lowest", cells(chappe, 4), "0 7 15 23");
        Check.due("30: all along back", chappe.plan(23, 0, 1), 4);
        Check.due("31: the first ones lowest, back", cells(chappe, 4), "23 15 7 0");
    }

    private static void planByGround() {
        ChappeLine chappe = new ChappeLine();
        chappe.tower(5, 1);
        chappe.setFog(4, 9);
        chappe.setGround(5, 10);
        Check.due("30: over a hill, by fog and on a tower's cell", chappe.plan(1, 9, 2), 3);
        Check.due("31: on the hill", cells(chappe, 3), "1 5 9");
        Check.due("30: a high one", chappe.plan(1, 9, 11), 2);
        Check.due("30: as high as the hill", chappe.plan(1, 9, 10), 3);
        chappe.setGround(4, 10);
        chappe.setGround(6, 10);
        Check.due("30: over a wide hill", chappe.plan(1, 9, 1), 4);
        Check.due("31: on both sides of it", cells(chappe, 4), "1 4 6 9");
    }

    private static void planBeyondTheEnds() {
        ChappeLine chappe = new ChappeLine();
        // From the hill on cell 0 all is seen that is hidden from cell 1.
        chappe.setGround(0, 50);
        chappe.setGround(2, 8);
        chappe.setGround(3, 10);
        chappe.setGround(4, 10);
        Check.due("30: by a cell that is not between", chappe.plan(1, 5, 1), 3);
        Check.due("31: by the hill", cells(chappe, 3), "1 0 5");
    }

    private static void planRefuses() {
        ChappeLine chappe = new ChappeLine();
        chappe.plan(3, 5, 1);
        Check.refuses("30: from -1", Check.INDEX, () -> chappe.plan(-1, 5, 0));
        Check.refuses("30: from 24", Check.INDEX, () -> chappe.plan(24, 5, 1));
        Check.refuses("30: to -1", Check.INDEX, () -> chappe.plan(5, -1, 1));
        Check.refuses("30: to 24", Check.INDEX, () -> chappe.plan(24, 24, 1));
        Check.refuses("30: height 0", Check.ARGUMENT, () -> chappe.plan(0, 5, 0));
        Check.refuses("30: height 31", Check.ARGUMENT, () -> chappe.plan(0, 5, 31));
        Check.refuses("30: the same", Check.ARGUMENT, () -> chappe.plan(5, 5, 1));
        Check.due("31: nothing changed", cells(chappe, 2), "3 5");
    }

    private static void signals() {
        ChappeLine chappe = Check.lineOn(9, 0, 4);
        Check.addLine(chappe, 9, 1, 5, 9);
        Check.send(chappe, 0, 0, 1);
        Check.send(chappe, 1, 0, 1, 2);
        chappe.pass(1);
        Check.due("32: two begins", chappe.signals(), 2L);
        chappe.pass(300);
        Check.due("32: all", chappe.signals(), 6L + 12L);
    }

    private static void rightShare() {
        ChappeLine chappe = Check.lineOn(9, 0, 4);
        Check.refuses("33: none", Check.ARITHMETIC, () -> chappe.rightShare());
        chappe.bribe(0, 1, 2);
        Check.send(chappe, 0, 0, 1);
        Check.refuses("33: none yet", Check.ARITHMETIC, () -> chappe.rightShare());
        chappe.pass(100);
        Check.due("33: no right one", chappe.rightShare(), 0.0f);
        Check.send(chappe, 0, 0, 1);
        Check.send(chappe, 0, 0, 1);
        chappe.pass(100);
        Check.due("33: two of three", chappe.rightShare(), 2.0f / 3.0f);
        chappe.setFog(0, 9);
        Check.send(chappe, 0, 0, 1);
        chappe.courier(3);
        Check.due("33: not by one on its way", chappe.rightShare(), 2.0f / 3.0f);
        chappe.pass(121);
        Check.due("33: by a courier's too", chappe.rightShare(), 0.75f);
    }

    private static void meanMinutes() {
        ChappeLine chappe = Check.lineOn(9, 0, 4);
        chappe.pass(10);
        Check.refuses("34: none", Check.ARITHMETIC, () -> chappe.meanMinutes());
        Check.send(chappe, 0, 0, 59);
        Check.refuses("34: none yet", Check.ARITHMETIC, () -> chappe.meanMinutes());
        chappe.pass(100);
        Check.due("34: one", chappe.meanMinutes(), 16.0);
        chappe.setFog(0, 9);
        Check.send(chappe, 0, 0, 59);
        chappe.courier(1);
        Check.due("34: not one on its way", chappe.meanMinutes(), 16.0);
        chappe.pass(300);
        Check.due("34: the courier's too", chappe.meanMinutes(), 68.0);
        chappe.setFog(0, 0);
        chappe.bribe(0, 59, 63 - 8);
        Check.send(chappe, 0, 0, 59);
        chappe.pass(300);
        Check.due("34: the wrong one too", chappe.meanMinutes(), (16 + 120 + chappe.deliveredAt(2) - 410) / 3.0);
    }

    private static void isConsistent() {
        ChappeLine chappe = Check.lineOn(9, 0, 4, 8);
        chappe.doze(1, 9);
        chappe.bribe(2, 3, 4);
        for (int i = 0; i < 10; i++) {
            Check.send(chappe, 0, i % 4, i, i + 1, i + 2);
            for (int j = 0; j < 20; j++) {
                chappe.pass(1);
                Check.due("35: consistent", chappe.isConsistent(), true);
            }
        }
    }

    /** No call makes a state that is not consistent, so this one is made behind the object's back. */
    private static void isNotConsistent() {
        String[] rows = {"reads", "sets", "minutes"};
        for (int tower = 0; tower < 3; tower++) {
            for (String row : rows) {
                ChappeLine chappe = twoMessages();
                Object log = inside(at(inside(chappe, "towers"), tower), "log");
                ((int[]) inside(log, row))[1] = row.equals("reads") ? 40 : row.equals("sets") ? 41 : tower == 0 ? 99 : 0;
                boolean isRead = tower > 0 || !row.equals("reads");
                Check.due("35: " + row + " of tower " + tower, chappe.isConsistent(), !isRead);
            }
        }
        for (int message = 0; message < 2; message++) {
            ChappeLine chappe = twoMessages();
            ((int[]) inside(at(inside(chappe, "messages"), message), "arrived"))[0] = 40;
            Check.due("35: what came of message " + message, chappe.isConsistent(), false);
        }
    }

    private static ChappeLine twoMessages() {
        ChappeLine chappe = Check.lineOn(9, 0, 4, 8);
        Check.send(chappe, 0, 0, 1, 2);
        Check.send(chappe, 0, 0, 3);
        chappe.pass(300);
        Check.due("35: consistent", chappe.isConsistent(), true);
        return chappe;
    }

    private static Object at(Object row, int index) {
        return ((Object[]) row)[index];
    }

    private static Object inside(Object object, String name) {
        try {
            Field field = object.getClass().getDeclaredField(name);
            field.setAccessible(true);
            return field.get(object);
        } catch (ReflectiveOperationException e) {
            throw new IllegalStateException(e);
        }
    }
}
