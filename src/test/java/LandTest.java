/** Promises 1 to 9: land, towers and lines. */
public final class LandTest {
    public static void main(String[] args) {
        newObject();
        setGround();
        setFog();
        tower();
        breakDown();
        line();
        extend();
        seesOverGround();
        seesByWeather();
        seesRefuses();
        isBlind();
        Check.end("LandTest");
    }

    private static void newObject() {
        ChappeLine chappe = new ChappeLine();
        Check.due("1: minute", chappe.minute(), 0);
        Check.due("1: signals", chappe.signals(), 0L);
        Check.due("1: isConsistent", chappe.isConsistent(), true);
        Check.refuses("1: no tower", Check.INDEX, () -> chappe.shows(0));
        Check.refuses("1: no line", Check.INDEX, () -> chappe.isBlind(0));
        Check.refuses("1: no message", Check.INDEX, () -> chappe.state(0));
        Check.refuses("1: no book", Check.INDEX, () -> chappe.setWord(0, 0, 0));
        Check.refuses("1: no plan", Check.INDEX, () -> chappe.planned(0));
        for (int cell = 0; cell < 24; cell++) {
            Check.due("1: flat", chappe.setGround(cell, 0), 0);
            Check.due("1: clear", chappe.setFog(cell, 0), 0);
        }
    }

    private static void setGround() {
        ChappeLine chappe = new ChappeLine();
        Check.due("2: first", chappe.setGround(0, 50), 0);
        Check.due("2: again", chappe.setGround(0, 0), 50);
        Check.due("2: last cell", chappe.setGround(23, 7), 0);
        Check.due("2: last cell again", chappe.setGround(23, 8), 7);
        Check.refuses("2: cell -1", Check.INDEX, () -> chappe.setGround(-1, 0));
        Check.refuses("2: cell 24", Check.INDEX, () -> chappe.setGround(24, 0));
        Check.refuses("2: height -1", Check.ARGUMENT, () -> chappe.setGround(23, -1));
        Check.refuses("2: height 51", Check.ARGUMENT, () -> chappe.setGround(23, 51));
        Check.refuses("2: cell first", Check.INDEX, () -> chappe.setGround(24, 51));
        Check.due("2: nothing changed", chappe.setGround(23, 0), 8);
    }

    private static void setFog() {
        ChappeLine chappe = new ChappeLine();
        Check.due("3: first", chappe.setFog(0, 9), 0);
        Check.due("3: again", chappe.setFog(0, 0), 9);
        Check.due("3: last cell", chappe.setFog(23, 3), 0);
        Check.due("3: not the ground", chappe.setGround(23, 5), 0);
        Check.refuses("3: cell -1", Check.INDEX, () -> chappe.setFog(-1, 0));
        Check.refuses("3: cell 24", Check.INDEX, () -> chappe.setFog(24, 0));
        Check.refuses("3: fog -1", Check.ARGUMENT, () -> chappe.setFog(23, -1));
        Check.refuses("3: fog 10", Check.ARGUMENT, () -> chappe.setFog(23, 10));
        Check.refuses("3: cell first", Check.INDEX, () -> chappe.setFog(-1, 10));
        Check.due("3: nothing changed", chappe.setFog(23, 0), 3);
    }

    private static void tower() {
        ChappeLine chappe = new ChappeLine();
        Check.refuses("4: cell -1", Check.INDEX, () -> chappe.tower(-1, 1));
        Check.refuses("4: cell 24", Check.INDEX, () -> chappe.tower(24, 0));
        Check.refuses("4: height 0", Check.ARGUMENT, () -> chappe.tower(0, 0));
        Check.refuses("4: height 31", Check.ARGUMENT, () -> chappe.tower(0, 31));
        for (int i = 0; i < 11; i++) {
            Check.due("4: number", chappe.tower(23 - i, i == 0 ? 30 : 1), i);
        }
        Check.refuses("4: height ahead of the cell's tower", Check.ARGUMENT, () -> chappe.tower(23, 31));
        Check.refuses("4: cell taken", Check.UNSUPPORTED, () -> chappe.tower(23, 1));
        Check.due("4: the last one", chappe.tower(0, 1), 11);
        Check.refuses("4: cell taken, all built", Check.UNSUPPORTED, () -> chappe.tower(0, 1));
        Check.refuses("4: all built", Check.STATE, () -> chappe.tower(1, 1));
        Check.due("4: shows none", chappe.shows(11), -1);
        Check.due("4: logged none", chappe.logged(11), 0);
        Check.refuses("4: no more", Check.INDEX, () -> chappe.shows(12));
    }

    private static void breakDown() {
        ChappeLine chappe = Check.lineOn(5, 0, 4);
        Check.due("5: was whole", chappe.breakDown(1, true), false);
        Check.due("5: was broken", chappe.breakDown(1, true), true);
        Check.due("5: unseen", chappe.sees(0, 1, false), false);
        Check.due("5: mended", chappe.breakDown(1, false), true);
        Check.due("5: seen", chappe.sees(0, 1, false), true);
        Check.due("5: other one", chappe.breakDown(0, false), false);
        Check.refuses("5: tower -1", Check.INDEX, () -> chappe.breakDown(-1, true));
        Check.refuses("5: tower 2", Check.INDEX, () -> chappe.breakDown(2, true));
    }

    private static void line() {
        ChappeLine chappe = new ChappeLine();
        for (int i = 0; i < 4; i++) {
            Check.due("6: number", chappe.line(), i);
        }
        Check.refuses("6: a fifth", Check.STATE, () -> chappe.line());
        Check.due("6: without towers", chappe.isBlind(3), false);
    }

    private static void extend() {
        ChappeLine chappe = Check.lineOn(9, 0, 2);
        chappe.tower(4, 9);
        chappe.tower(6, 9);
        chappe.line();
        Check.refuses("7: line 2", Check.INDEX, () -> chappe.extend(2, 2));
        Check.refuses("7: line -1", Check.INDEX, () -> chappe.extend(-1, 2));
        Check.refuses("7: tower 4", Check.INDEX, () -> chappe.extend(0, 4));
        Check.refuses("7: tower -1", Check.INDEX, () -> chappe.extend(0, -1));
        Check.refuses("7: in this line", Check.UNSUPPORTED, () -> chappe.extend(0, 0));
        Check.refuses("7: in another line", Check.UNSUPPORTED, () -> chappe.extend(1, 0));
        Check.due("7: third", chappe.extend(0, 2), 3);
        Check.send(chappe, 0, 0, 1);
        Check.refuses("7: has a message", Check.STATE, () -> chappe.extend(0, 3));
        Check.refuses("7: in a line first", Check.UNSUPPORTED, () -> chappe.extend(0, 2));
        Check.due("7: the other line", chappe.extend(1, 3), 1);
        chappe.pass(300);
        Check.due("7: delivered", chappe.state(0), 'd');
        chappe.tower(8, 9);
        Check.refuses("7: had a message", Check.STATE, () -> chappe.extend(0, 4));
        Check.due("7: nothing changed", chappe.extend(1, 4), 2);
    }

    private static void seesOverGround() {
        ChappeLine chappe = new ChappeLine();
        chappe.tower(3, 1);
        chappe.tower(11, 9);
        chappe.tower(12, 30);
        chappe.tower(4, 1);
        Check.due("8: eight apart", chappe.sees(0, 1, true), true);
        Check.due("8: nine apart", chappe.sees(0, 2, true), false);
        Check.due("8: next to each other", chappe.sees(2, 1, true), true);
        // From 1 to 9 over eight cells the sight rises by 1 a cell.
        chappe.setGround(9, 7);
        Check.due("8: on the line", chappe.sees(0, 1, true), false);
        Check.due("8: from the other side", chappe.sees(1, 0, true), false);
        chappe.setGround(9, 6);
        Check.due("8: below the line", chappe.sees(1, 0, true), true);
        chappe.setGround(11, 1);
        // From 1 to 10 the line is at 7.75 there: exact, not rounded down.
        chappe.setGround(9, 7);
        Check.due("8: the eye is on the ground", chappe.sees(0, 1, true), true);
        chappe.setGround(9, 8);
        Check.due("8: above the line", chappe.sees(0, 1, true), false);
        chappe.setGround(9, 0);
        chappe.setGround(4, 2);
        Check.due("8: a cell near the eye", chappe.sees(0, 1, true), true);
        chappe.setGround(4, 3);
        Check.due("8: a wall near the eye", chappe.sees(0, 1, true), false);
        Check.due("8: onto the wall", chappe.sees(0, 3, true), true);
        chappe.setGround(3, 50);
        Check.due("8: raised over the wall", chappe.sees(0, 1, true), true);
        chappe.setGround(10, 16);
        Check.due("8: a wall near the other eye", chappe.sees(0, 1, true), false);
        chappe.setGround(10, 15);
        Check.due("8: a lower wall near the other eye", chappe.sees(0, 1, true), true);
    }

    private static void seesByWeather() {
        ChappeLine chappe = new ChappeLine();
        chappe.tower(10, 5);
        chappe.tower(5, 5);
        for (int cell = 5; cell <= 10; cell++) {
            chappe.setFog(cell, 5);
            Check.due("8: fog", chappe.sees(0, 1, false), false);
            Check.due("8: fog, from the other side", chappe.sees(1, 0, false), false);
            Check.due("8: fog over the ground", chappe.sees(0, 1, true), true);
            chappe.setFog(cell, 4);
            Check.due("8: mist", chappe.sees(0, 1, false), true);
        }
        chappe.setFog(4, 9);
        chappe.setFog(11, 9);
        Check.due("8: fog beside", chappe.sees(0, 1, false), true);
        chappe.breakDown(0, true);
        Check.due("8: broken", chappe.sees(0, 1, false), false);
        Check.due("8: broken, from the other side", chappe.sees(1, 0, false), false);
        Check.due("8: broken over the ground", chappe.sees(1, 0, true), true);
        chappe.breakDown(0, false);
        chappe.setGround(7, 5);
        Check.due("8: the ground counts too", chappe.sees(0, 1, false), false);
    }

    private static void seesRefuses() {
        ChappeLine chappe = Check.lineOn(5, 0, 4);
        Check.refuses("8: one -1", Check.INDEX, () -> chappe.sees(-1, 0, true));
        Check.refuses("8: one 2", Check.INDEX, () -> chappe.sees(2, 0, true));
        Check.refuses("8: other -1", Check.INDEX, () -> chappe.sees(0, -1, false));
        Check.refuses("8: other 2", Check.INDEX, () -> chappe.sees(0, 2, false));
        Check.refuses("8: the same", Check.ARGUMENT, () -> chappe.sees(1, 1, true));
        Check.refuses("8: the same, not there", Check.INDEX, () -> chappe.sees(2, 2, true));
    }

    private static void isBlind() {
        ChappeLine chappe = Check.lineOn(5, 0, 8, 16, 12);
        Check.due("9: sees", chappe.isBlind(0), false);
        chappe.setFog(3, 5);
        Check.due("9: fog", chappe.isBlind(0), true);
        chappe.setFog(3, 0);
        chappe.breakDown(3, true);
        Check.due("9: the last one is broken", chappe.isBlind(0), true);
        chappe.breakDown(3, false);
        chappe.setGround(14, 9);
        Check.due("9: ground", chappe.isBlind(0), true);
        chappe.setGround(14, 0);
        Check.due("9: sees again", chappe.isBlind(0), false);
        Check.addLine(chappe, 5, 1);
        chappe.breakDown(4, true);
        Check.due("9: one tower alone", chappe.isBlind(1), false);
        Check.refuses("9: line -1", Check.INDEX, () -> chappe.isBlind(-1));
        Check.refuses("9: line 2", Check.INDEX, () -> chappe.isBlind(2));
        Check.addLine(chappe, 5, 23, 6);
        Check.due("9: too far", chappe.isBlind(2), true);
    }
}
