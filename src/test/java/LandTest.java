/** Promises 1 to 9, sentence by sentence: land, towers and lines. */
public final class LandTest {
    public static void main(String[] args) {
        Check.runAll(LandTest.class);
    }

    // ---- 1: a new object

    static void newObject() {
        ChappeLine chappe = new ChappeLine();
        Check.sentence(1, "Creates a flat land without towers, in the minute 0.");
        for (int cell = 0; cell < 24; cell++) {
            Check.due("flat at " + cell, chappe.setGround(cell, 0), 0);
            Check.due("clear at " + cell, chappe.setFog(cell, 0), 0);
        }
        Check.due("the minute", chappe.minute(), 0);
        Check.refuses("no tower", Check.INDEX, () -> chappe.shows(0));
        Check.refuses("no line", Check.INDEX, () -> chappe.isBlind(0));
        Check.refuses("no message", Check.INDEX, () -> chappe.state(0));
        Check.refuses("no book", Check.INDEX, () -> chappe.setWord(0, 0, 0));
        Check.refuses("no plan", Check.INDEX, () -> chappe.planned(0));
        Check.due("no signals", chappe.signals(), 0L);
        Check.due("an empty text", chappe.type(0), 1);
        Check.due("consistent", chappe.isConsistent(), true);
    }

    static void objectsAreByThemselves() {
        ChappeLine one = Check.lineOn(9, 0, 4);
        ChappeLine other = new ChappeLine();
        one.setGround(2, 3);
        one.type(5);
        one.pass(7);
        Check.sentence(1, "Creates a flat land without towers, in the minute 0.");
        Check.due("another one's ground", other.setGround(2, 0), 0);
        Check.due("another one's text", other.type(1), 1);
        Check.due("another one's minute", other.minute(), 0);
        Check.due("another one's towers", other.tower(0, 1), 0);
        Check.due("another one's lines", other.line(), 0);
    }

    // ---- 2: setGround

    static void groundHides() {
        ChappeLine chappe = Check.lineOn(5, 0, 2);
        Check.sentence(2, "Sets the ground of a cell.");
        chappe.setGround(1, 5);
        Check.due("hidden", chappe.sees(0, 1, true), false);
        chappe.setGround(1, 4);
        Check.due("seen again", chappe.sees(0, 1, true), true);
    }

    static void groundFrom0To50() {
        ChappeLine chappe = new ChappeLine();
        Check.sentence(2, "`height`: the height, 0 to 50");
        for (int cell = 0; cell < 24; cell++) {
            Check.due("from 0 at " + cell, chappe.setGround(cell, 50), 0);
            Check.due("from 50 at " + cell, chappe.setGround(cell, 0), 50);
        }
    }

    static void groundBefore() {
        ChappeLine chappe = new ChappeLine();
        Check.sentence(2, "Returns the one before.");
        Check.due("0 at first", chappe.setGround(7, 20), 0);
        Check.due("the same again", chappe.setGround(7, 20), 20);
        Check.due("of this cell", chappe.setGround(8, 1), 0);
        chappe.setFog(7, 9);
        Check.due("not the fog", chappe.setGround(7, 3), 20);
    }

    static void groundOfNoCell() {
        ChappeLine chappe = new ChappeLine();
        Check.sentence(2, "Throws `IndexOutOfBoundsException` if there is no such cell");
        for (int cell : Check.outside(0, 23)) {
            Check.refuses("cell " + cell, Check.INDEX, () -> chappe.setGround(cell, 1));
        }
    }

    static void groundOutOfRange() {
        ChappeLine chappe = new ChappeLine();
        Check.sentence(2, "Throws `IllegalArgumentException` if the height is out of range");
        for (int height : Check.outside(0, 50)) {
            Check.refuses("height " + height, Check.ARGUMENT, () -> chappe.setGround(0, height));
            Check.refuses("height " + height + " at the end", Check.ARGUMENT, () -> chappe.setGround(23, height));
        }
    }

    // ---- 3: setFog

    static void fogHides() {
        ChappeLine chappe = Check.lineOn(5, 0, 2);
        Check.sentence(3, "Sets the fog of a cell.");
        chappe.setFog(1, 9);
        Check.due("hidden", chappe.sees(0, 1, false), false);
        chappe.setFog(1, 0);
        Check.due("seen again", chappe.sees(0, 1, false), true);
    }

    static void fogFrom0To9() {
        ChappeLine chappe = new ChappeLine();
        Check.sentence(3, "`fog`: the fog, 0 to 9");
        for (int cell = 0; cell < 24; cell++) {
            Check.due("from 0 at " + cell, chappe.setFog(cell, 9), 0);
            Check.due("from 9 at " + cell, chappe.setFog(cell, 0), 9);
        }
    }

    static void fogBefore() {
        ChappeLine chappe = new ChappeLine();
        Check.sentence(3, "Returns the one before.");
        Check.due("0 at first", chappe.setFog(7, 6), 0);
        Check.due("the same again", chappe.setFog(7, 6), 6);
        Check.due("of this cell", chappe.setFog(8, 1), 0);
        chappe.setGround(7, 40);
        Check.due("not the ground", chappe.setFog(7, 3), 6);
    }

    static void fogOfNoCell() {
        ChappeLine chappe = new ChappeLine();
        Check.sentence(3, "Throws `IndexOutOfBoundsException` if there is no such cell");
        for (int cell : Check.outside(0, 23)) {
            Check.refuses("cell " + cell, Check.INDEX, () -> chappe.setFog(cell, 1));
        }
    }

    static void fogOutOfRange() {
        ChappeLine chappe = new ChappeLine();
        Check.sentence(3, "Throws `IllegalArgumentException` if the fog is out of range");
        for (int fog : Check.outside(0, 9)) {
            Check.refuses("fog " + fog, Check.ARGUMENT, () -> chappe.setFog(0, fog));
            Check.refuses("fog " + fog + " at the end", Check.ARGUMENT, () -> chappe.setFog(23, fog));
        }
    }

    // ---- 4: tower

    static void towerIsBuilt() {
        ChappeLine chappe = new ChappeLine();
        Check.sentence(4, "Builds a tower.");
        Check.refuses("not there", Check.INDEX, () -> chappe.shows(0));
        chappe.tower(3, 7);
        Check.due("there, and shows none", chappe.shows(0), -1);
        Check.due("with an empty log", chappe.logged(0), 0);
        Check.due("whole", chappe.breakDown(0, false), false);
        Check.due("without a doze", chappe.doze(0, 0), 0);
        Check.due("without a bribe", chappe.bribe(0, 1, 2), false);
        chappe.line();
        Check.due("in no line", chappe.extend(0, 0), 1);
    }

    static void towerFrom1To30() {
        ChappeLine chappe = new ChappeLine();
        Check.sentence(4, "`height`: the height, 1 to 30");
        Check.due("1 high", chappe.tower(0, 1), 0);
        Check.due("1 high too", chappe.tower(2, 1), 1);
        Check.due("30 high", chappe.tower(20, 30), 2);
        Check.due("30 high too", chappe.tower(22, 30), 3);
        Check.due("over 0 by 1", chappe.sees(0, 1, true), true);
        chappe.setGround(1, 1);
        Check.due("over 1 by 1", chappe.sees(0, 1, true), false);
        chappe.setGround(21, 29);
        Check.due("over 29 by 30", chappe.sees(2, 3, true), true);
        chappe.setGround(21, 30);
        Check.due("over 30 by 30", chappe.sees(2, 3, true), false);
    }

    static void towerNumbers() {
        ChappeLine chappe = new ChappeLine();
        Check.sentence(4, "Returns the number of the tower.");
        for (int i = 0; i < 12; i++) {
            Check.due("number", chappe.tower(23 - 2 * i, 1 + i), i);
        }
    }

    static void towerOnNoCell() {
        ChappeLine chappe = new ChappeLine();
        Check.sentence(4, "Throws `IndexOutOfBoundsException` if there is no such cell");
        for (int cell : Check.outside(0, 23)) {
            Check.refuses("cell " + cell, Check.INDEX, () -> chappe.tower(cell, 1));
        }
        Check.due("the first cell", chappe.tower(0, 1), 0);
        Check.due("the last cell", chappe.tower(23, 1), 1);
    }

    static void towerOutOfRange() {
        ChappeLine chappe = new ChappeLine();
        Check.sentence(4, "Throws `IllegalArgumentException` if the height is out of range");
        for (int height : Check.outside(1, 30)) {
            Check.refuses("height " + height, Check.ARGUMENT, () -> chappe.tower(5, height));
        }
    }

    static void towerOnATower() {
        ChappeLine chappe = new ChappeLine();
        chappe.tower(0, 1);
        chappe.tower(23, 30);
        Check.sentence(4, "Throws `UnsupportedOperationException` if there is a tower on this cell");
        Check.refuses("the same tower", Check.UNSUPPORTED, () -> chappe.tower(0, 1));
        Check.refuses("another height", Check.UNSUPPORTED, () -> chappe.tower(0, 30));
        Check.refuses("on the last cell", Check.UNSUPPORTED, () -> chappe.tower(23, 1));
        chappe.breakDown(0, true);
        Check.refuses("on a broken one", Check.UNSUPPORTED, () -> chappe.tower(0, 1));
        Check.due("beside it", chappe.tower(1, 1), 2);
        Check.due("beside the last one", chappe.tower(22, 1), 3);
    }

    static void thirteenthTower() {
        ChappeLine chappe = new ChappeLine();
        for (int i = 0; i < 11; i++) {
            chappe.tower(i, 5);
        }
        Check.sentence(4, "Throws `IllegalStateException` if there are 12 towers");
        Check.due("the twelfth", chappe.tower(23, 5), 11);
        Check.refuses("a thirteenth", Check.STATE, () -> chappe.tower(22, 5));
        chappe.breakDown(3, true);
        Check.refuses("broken ones count", Check.STATE, () -> chappe.tower(11, 5));
    }

    // ---- 5: breakDown

    static void brokenTowerIsNotSeen() {
        ChappeLine chappe = Check.lineOn(5, 0, 4);
        Check.sentence(5, "Breaks or mends a tower.");
        chappe.breakDown(1, true);
        Check.due("broken", chappe.sees(0, 1, false), false);
        chappe.breakDown(1, false);
        Check.due("mended", chappe.sees(0, 1, false), true);
    }

    static void breakDownByItsFlag() {
        ChappeLine chappe = Check.lineOn(5, 0, 4);
        Check.sentence(5, "`isBroken`: true if it is broken");
        chappe.breakDown(0, false);
        Check.due("false leaves it whole", chappe.sees(0, 1, false), true);
        chappe.breakDown(0, true);
        Check.due("true breaks it", chappe.sees(0, 1, false), false);
        chappe.breakDown(0, true);
        Check.due("true again leaves it broken", chappe.sees(0, 1, false), false);
    }

    static void breakDownBefore() {
        ChappeLine chappe = Check.lineOn(5, 0, 4);
        Check.sentence(5, "Returns true if it was broken.");
        Check.due("whole at first", chappe.breakDown(1, true), false);
        Check.due("broken", chappe.breakDown(1, true), true);
        Check.due("still broken", chappe.breakDown(1, false), true);
        Check.due("mended", chappe.breakDown(1, false), false);
        Check.due("the other one", chappe.breakDown(0, false), false);
    }

    static void breakDownOfNoTower() {
        ChappeLine chappe = Check.lineOn(5, 0, 4);
        Check.sentence(5, "Throws `IndexOutOfBoundsException` if there is no such tower");
        for (int tower : Check.outside(0, 1)) {
            Check.refuses("tower " + tower, Check.INDEX, () -> chappe.breakDown(tower, true));
        }
    }

    // ---- 6: line

    static void lineWithoutTowers() {
        ChappeLine chappe = new ChappeLine();
        chappe.tower(0, 1);
        Check.sentence(6, "Makes a line without towers.");
        Check.refuses("not there", Check.INDEX, () -> chappe.extend(0, 0));
        chappe.line();
        Check.due("not blind", chappe.isBlind(0), false);
        chappe.type(1);
        Check.refuses("too short for messages", Check.UNSUPPORTED, () -> chappe.put(0, 0));
        Check.due("its first tower", chappe.extend(0, 0), 1);
    }

    static void lineNumbers() {
        ChappeLine chappe = new ChappeLine();
        Check.sentence(6, "Returns the number of the line.");
        for (int i = 0; i < 4; i++) {
            Check.due("number", chappe.line(), i);
        }
    }

    static void fifthLine() {
        ChappeLine chappe = new ChappeLine();
        for (int i = 0; i < 3; i++) {
            chappe.line();
        }
        Check.sentence(6, "Throws `IllegalStateException` if there are 4 lines");
        Check.due("the fourth", chappe.line(), 3);
        Check.refuses("a fifth", Check.STATE, () -> chappe.line());
        Check.refuses("a fifth again", Check.STATE, () -> chappe.line());
        Check.refuses("and is not there", Check.INDEX, () -> chappe.isBlind(4));
    }

    // ---- 7: extend

    static void extendBehindTheLast() {
        ChappeLine chappe = Check.lineOn(9, 4, 0, 8);
        Check.sentence(7, "Puts a tower behind the last one of a line.");
        Check.send(chappe, 0, 0, 1);
        chappe.pass(40);
        Check.due("the first one puts", chappe.inLog(0, 0, 'm'), 0);
        Check.due("the second one takes from it", chappe.inLog(1, 0, 'm'), 6);
        Check.due("the third one takes from that", chappe.inLog(2, 0, 'm'), 12);
    }

    static void extendCounts() {
        ChappeLine chappe = new ChappeLine();
        chappe.line();
        chappe.line();
        Check.sentence(7, "Returns how many towers the line has.");
        for (int i = 0; i < 11; i++) {
            Check.due("one more", chappe.extend(1, chappe.tower(2 * i, 1)), i + 1);
        }
        Check.due("of this line", chappe.extend(0, chappe.tower(23, 1)), 1);
    }

    static void extendByAllTowers() {
        ChappeLine chappe = new ChappeLine();
        chappe.line();
        Check.sentence(7, "Returns how many towers the line has.");
        for (int i = 0; i < 12; i++) {
            Check.due("one more", chappe.extend(0, chappe.tower(i, 1)), i + 1);
        }
        Check.send(chappe, 0, 0, 7);
        Check.due("all twelve pass it on", chappe.pass(200), 1);
        Check.due("to the last one", chappe.logged(11), 3);
    }

    static void extendNoLineOrTower() {
        ChappeLine chappe = Check.lineOn(9, 0, 2);
        chappe.tower(4, 9);
        chappe.line();
        Check.sentence(7, "Throws `IndexOutOfBoundsException` if there is no such line or tower");
        for (int line : Check.outside(0, 1)) {
            Check.refuses("line " + line, Check.INDEX, () -> chappe.extend(line, 2));
        }
        for (int tower : Check.outside(0, 2)) {
            Check.refuses("tower " + tower, Check.INDEX, () -> chappe.extend(0, tower));
        }
        Check.due("the last line and the last tower", chappe.extend(1, 2), 1);
    }

    static void extendByATowerInALine() {
        ChappeLine chappe = Check.lineOn(9, 0, 2);
        chappe.line();
        Check.sentence(7, "Throws `UnsupportedOperationException` if the tower is in a line");
        Check.refuses("in this line", Check.UNSUPPORTED, () -> chappe.extend(0, 0));
        Check.refuses("in another line", Check.UNSUPPORTED, () -> chappe.extend(1, 0));
        Check.refuses("the last one", Check.UNSUPPORTED, () -> chappe.extend(1, 1));
    }

    static void extendWithMessages() {
        ChappeLine chappe = Check.lineOn(9, 0, 2);
        chappe.tower(4, 9);
        chappe.tower(6, 9);
        chappe.line();
        chappe.type(1);
        Check.sentence(7, "Throws `IllegalStateException` if a message was put in for the line");
        Check.due("a text alone is no message", chappe.extend(0, 2), 3);
        chappe.put(0, 0);
        Check.refuses("a message that waits", Check.STATE, () -> chappe.extend(0, 3));
        chappe.pass(300);
        Check.due("it was delivered", chappe.state(0), 'd');
        Check.refuses("a message that was delivered", Check.STATE, () -> chappe.extend(0, 3));
        Check.due("the other line has none", chappe.extend(1, 3), 1);
    }

    // ---- 8: sees

    static void seesEachOther() {
        ChappeLine chappe = new ChappeLine();
        chappe.tower(3, 1);
        chappe.tower(11, 9);
        chappe.tower(12, 30);
        Check.sentence(8, "Returns whether two towers see each other.");
        Check.due("eight apart", chappe.sees(0, 1, false), true);
        Check.due("nine apart", chappe.sees(0, 2, false), false);
        Check.due("next to each other", chappe.sees(2, 1, false), true);
    }

    static void seesOverTheGroundAlone() {
        ChappeLine chappe = Check.lineOn(5, 0, 4);
        Check.sentence(8, "`ground`: true if only the ground is looked at");
        chappe.setFog(2, 9);
        Check.due("fog, over the ground", chappe.sees(0, 1, true), true);
        Check.due("fog", chappe.sees(0, 1, false), false);
        chappe.setFog(2, 0);
        chappe.breakDown(0, true);
        Check.due("broken, over the ground", chappe.sees(0, 1, true), true);
        Check.due("broken", chappe.sees(0, 1, false), false);
        chappe.breakDown(0, false);
        chappe.setGround(2, 5);
        Check.due("a hill, over the ground", chappe.sees(0, 1, true), false);
        Check.due("a hill", chappe.sees(0, 1, false), false);
    }

    static void seesTrue() {
        ChappeLine chappe = Check.lineOn(5, 0, 4);
        Check.sentence(8, "Returns true if they do.");
        Check.due("from one to the other", chappe.sees(0, 1, true), true);
        Check.due("and back", chappe.sees(1, 0, false), true);
        chappe.setGround(1, 50);
        Check.due("not from one to the other", chappe.sees(0, 1, true), false);
        Check.due("nor back", chappe.sees(1, 0, false), false);
    }

    static void seesNoTower() {
        ChappeLine chappe = Check.lineOn(5, 0, 4);
        Check.sentence(8, "Throws `IndexOutOfBoundsException` if there is no such tower, for either");
        for (int tower : Check.outside(0, 1)) {
            Check.refuses("one " + tower, Check.INDEX, () -> chappe.sees(tower, 1, true));
            Check.refuses("other " + tower, Check.INDEX, () -> chappe.sees(0, tower, false));
        }
    }

    static void seesItself() {
        ChappeLine chappe = Check.lineOn(5, 0, 4);
        Check.sentence(8, "Throws `IllegalArgumentException` if they are the same");
        Check.refuses("the first one", Check.ARGUMENT, () -> chappe.sees(0, 0, true));
        Check.refuses("the last one", Check.ARGUMENT, () -> chappe.sees(1, 1, false));
    }

    // ---- 9: isBlind

    static void blindLine() {
        ChappeLine chappe = Check.lineOn(5, 0, 8, 16, 12);
        Check.sentence(9, "Returns whether a line is blind.");
        Check.due("sees", chappe.isBlind(0), false);
        chappe.setFog(3, 5);
        Check.due("fog between the first ones", chappe.isBlind(0), true);
        chappe.setFog(3, 0);
        chappe.setGround(10, 5);
        Check.due("a hill between the middle ones", chappe.isBlind(0), true);
        chappe.setGround(10, 0);
        chappe.breakDown(3, true);
        Check.due("the last one is broken", chappe.isBlind(0), true);
        chappe.breakDown(3, false);
        Check.due("sees again", chappe.isBlind(0), false);
    }

    static void blindTrue() {
        ChappeLine chappe = Check.lineOn(5, 0, 4);
        Check.addLine(chappe, 5, 23, 6);
        chappe.line();
        Check.addLine(chappe, 5, 10);
        chappe.breakDown(4, true);
        Check.sentence(9, "Returns true if it is.");
        Check.due("it sees", chappe.isBlind(0), false);
        Check.due("too far", chappe.isBlind(1), true);
        Check.due("no tower", chappe.isBlind(2), false);
        Check.due("one tower, broken", chappe.isBlind(3), false);
    }

    static void blindNoLine() {
        ChappeLine chappe = Check.lineOn(5, 0, 4);
        Check.sentence(9, "Throws `IndexOutOfBoundsException` if there is no such line");
        for (int line : Check.outside(0, 0)) {
            Check.refuses("line " + line, Check.INDEX, () -> chappe.isBlind(line));
        }
    }
}
