/** Promises 30 to 35, sentence by sentence: planning and figures. */
public final class PlanTest {
    private static final String PLAN = "Plans a line of new towers of a height from a cell to another one, so that "
            + "neighbours would see each other over the ground: with the fewest towers, of several the one with "
            + "the lowest cells, compared from the first one on.";

    public static void main(String[] args) {
        Check.runAll(PlanTest.class);
    }

    private static final String PLANS = "neighbours would see each other";

    // ---- 30: plan

    static void planFewestTowers() {
        ChappeLine chappe = new ChappeLine();
        Check.sentence(30, PLAN);
        Check.due("next to each other", chappe.plan(0, 1, 1), 2);
        Check.due(PLANS, Check.planned(chappe, 2), "0 1");
        Check.due("back", chappe.plan(23, 22, 1), 2);
        Check.due(PLANS, Check.planned(chappe, 2), "23 22");
        Check.due("eight apart", chappe.plan(8, 16, 1), 2);
        Check.due(PLANS, Check.planned(chappe, 2), "8 16");
        Check.due("eight apart, back", chappe.plan(8, 0, 30), 2);
        Check.due(PLANS, Check.planned(chappe, 2), "8 0");
        Check.due("nine apart", chappe.plan(0, 9, 1), 3);
        Check.due("sixteen apart", chappe.plan(0, 16, 1), 3);
        Check.due(PLANS, Check.planned(chappe, 3), "0 8 16");
        Check.due("seventeen apart", chappe.plan(0, 17, 1), 4);
    }

    static void planLowestCells() {
        ChappeLine chappe = new ChappeLine();
        Check.sentence(30, PLAN);
        chappe.plan(0, 9, 1);
        Check.due("the lowest between", Check.planned(chappe, 3), "0 1 9");
        chappe.plan(9, 0, 1);
        Check.due("the lowest between, back", Check.planned(chappe, 3), "9 1 0");
        chappe.plan(0, 17, 1);
        Check.due("the first ones lowest", Check.planned(chappe, 4), "0 1 9 17");
        chappe.plan(17, 0, 1);
        Check.due("the first ones lowest, back", Check.planned(chappe, 4), "17 9 1 0");
        chappe.plan(0, 23, 1);
        Check.due("all along", Check.planned(chappe, 4), "0 7 15 23");
        chappe.plan(23, 0, 1);
        Check.due("all along, back", Check.planned(chappe, 4), "23 15 7 0");
        chappe.setGround(7, 50);
        chappe.plan(0, 23, 1);
        Check.due("by the hill", Check.planned(chappe, 4), "0 7 15 23");
    }

    static void planByGround() {
        ChappeLine chappe = new ChappeLine();
        chappe.setGround(5, 10);
        Check.sentence(30, PLAN);
        Check.due("over a hill", chappe.plan(1, 9, 2), 3);
        Check.due("on the hill", Check.planned(chappe, 3), "1 5 9");
        Check.due("higher than the hill", chappe.plan(1, 9, 11), 2);
        Check.due("as high as the hill", chappe.plan(1, 9, 10), 3);
        chappe.setGround(4, 10);
        chappe.setGround(6, 10);
        Check.due("over a wide hill", chappe.plan(1, 9, 1), 4);
        Check.due("on both sides of it", Check.planned(chappe, 4), "1 4 6 9");
    }

    static void planWithoutWeatherAndTowers() {
        ChappeLine chappe = new ChappeLine();
        for (int cell = 0; cell < 12; cell++) {
            chappe.setFog(cell, 9);
            chappe.tower(cell, 1);
            chappe.breakDown(cell, true);
        }
        Check.sentence(30, PLAN);
        Check.due("over the ground alone", chappe.plan(0, 9, 1), 3);
        Check.due("on cells with towers", Check.planned(chappe, 3), "0 1 9");
        Check.refuses("none is built", Check.INDEX, () -> chappe.shows(12));
        Check.due("no line is made", chappe.line(), 0);
    }

    static void planBeyondTheEnds() {
        ChappeLine chappe = new ChappeLine();
        // From the hill on cell 0 all is seen that is hidden from cell 1.
        chappe.setGround(0, 50);
        chappe.setGround(2, 8);
        chappe.setGround(3, 10);
        chappe.setGround(4, 10);
        Check.sentence(30, PLAN);
        Check.due("by a cell that is not between", chappe.plan(1, 5, 1), 3);
        Check.due("by the hill", Check.planned(chappe, 3), "1 0 5");
    }

    static void planFrom1To30() {
        ChappeLine chappe = new ChappeLine();
        Check.sentence(30, "`height`: the height, 1 to 30");
        chappe.setGround(1, 1);
        Check.due("1 high", chappe.plan(0, 2, 1), 3);
        Check.due("2 high", chappe.plan(0, 2, 2), 2);
        chappe.setGround(1, 29);
        Check.due("29 high", chappe.plan(0, 2, 29), 3);
        Check.due("30 high", chappe.plan(0, 2, 30), 2);
        chappe.setGround(1, 30);
        Check.due("30 high, over 30", chappe.plan(0, 2, 30), 3);
    }

    static void planNumber() {
        ChappeLine chappe = new ChappeLine();
        Check.sentence(30, "Returns the number of towers.");
        Check.due("the first and the last one", chappe.plan(3, 4, 5), 2);
        // Each cell of a dome hides its two neighbours from each other.
        int[] dome = {0, 13, 24, 33, 40, 45, 48, 49, 48, 45, 40, 33, 24, 13, 0};
        for (int cell = 0; cell < dome.length; cell++) {
            chappe.setGround(cell, dome[cell]);
        }
        Check.due("one on each cell", chappe.plan(0, 11, 1), 12);
        Check.due("all of them", Check.planned(chappe, 12), "0 1 2 3 4 5 6 7 8 9 10 11");
        Check.due("back", chappe.plan(10, 0, 1), 11);
        Check.due("all of them, back", Check.planned(chappe, 11), "10 9 8 7 6 5 4 3 2 1 0");
        Check.due("fewer by a cell behind the dome", chappe.plan(0, 14, 1), 12);
        Check.due("beyond the end", Check.planned(chappe, 12), "0 1 2 3 4 5 6 7 8 9 17 14");
    }

    static void planFromNoCell() {
        ChappeLine chappe = new ChappeLine();
        Check.sentence(30, "Throws `IndexOutOfBoundsException` if there is no such cell, for either");
        for (int cell : Check.outside(0, 23)) {
            Check.refuses("from " + cell, Check.INDEX, () -> chappe.plan(cell, 5, 1));
            Check.refuses("to " + cell, Check.INDEX, () -> chappe.plan(5, cell, 1));
            Check.refuses("both " + cell, Check.INDEX, () -> chappe.plan(cell, cell, 1));
        }
    }

    static void planOutOfRange() {
        ChappeLine chappe = new ChappeLine();
        Check.sentence(30, "Throws `IllegalArgumentException` if the height is out of range, "
                + "or both cells are the same");
        for (int height : Check.outside(1, 30)) {
            Check.refuses("height " + height, Check.ARGUMENT, () -> chappe.plan(0, 5, height));
        }
        for (int cell = 0; cell < 24; cell++) {
            int same = cell;
            Check.refuses("the same " + cell, Check.ARGUMENT, () -> chappe.plan(same, same, 1));
        }
    }

    /** Neighbouring cells have none between them, so a line is always there. */
    static void planIsAlwaysThere() {
        ChappeLine chappe = new ChappeLine();
        for (int cell = 0; cell < 24; cell++) {
            chappe.setGround(cell, cell % 3 == 0 ? 50 : cell % 2 == 0 ? 0 : 25);
        }
        Check.sentence(30, "Throws `NoSuchElementException` if there is no such line");
        for (int cell = 0; cell < 24; cell++) {
            int towers = cell == 0 ? chappe.plan(0, 23, 1) : chappe.plan(cell, 0, 1);
            Check.due("there is one", towers >= 2, true);
            Check.due("its last cell", chappe.planned(towers - 1), cell == 0 ? 23 : 0);
        }
    }

    // ---- 31: planned

    static void plannedLast() {
        ChappeLine chappe = new ChappeLine();
        Check.sentence(31, "Returns a cell of the line that was planned last.");
        chappe.plan(0, 23, 1);
        Check.due("planned", chappe.planned(1), 7);
        chappe.plan(20, 3, 1);
        Check.due("planned last", Check.planned(chappe, 4), "20 12 4 3");
        chappe.setGround(12, 50);
        Check.due("by the ground of then", Check.planned(chappe, 4), "20 12 4 3");
    }

    static void plannedByIndex() {
        ChappeLine chappe = new ChappeLine();
        chappe.plan(2, 23, 1);
        Check.sentence(31, "`index`: the index, from 0");
        Check.due("the first one", chappe.planned(0), 2);
        Check.due("the second one", chappe.planned(1), 7);
        Check.due("the third one", chappe.planned(2), 15);
        Check.due("the last one", chappe.planned(3), 23);
    }

    static void plannedCell() {
        ChappeLine chappe = new ChappeLine();
        Check.sentence(31, "Returns the cell.");
        chappe.plan(0, 23, 30);
        Check.due("the first cell", chappe.planned(0), 0);
        chappe.plan(23, 0, 30);
        Check.due("the last cell", chappe.planned(0), 23);
    }

    static void plannedNotThere() {
        ChappeLine chappe = new ChappeLine();
        Check.sentence(31, "Throws `IndexOutOfBoundsException` if there is no such tower in it");
        Check.refuses("nothing was planned", Check.INDEX, () -> chappe.planned(0));
        chappe.plan(0, 23, 1);
        Check.due("the last one", chappe.planned(3), 23);
        for (int index : Check.outside(0, 3)) {
            Check.refuses("index " + index, Check.INDEX, () -> chappe.planned(index));
        }
        chappe.plan(0, 5, 1);
        Check.due("the last one of a shorter one", chappe.planned(1), 5);
        for (int index : Check.outside(0, 1)) {
            Check.refuses("index " + index + " of a shorter one", Check.INDEX, () -> chappe.planned(index));
        }
        Check.refuses("of the longer one", Check.INDEX, () -> chappe.planned(3));
    }

    // ---- 32: signals

    static void signalsOfAllLogs() {
        ChappeLine chappe = Check.lineOn(9, 0, 4);
        Check.addLine(chappe, 9, 1, 5, 9);
        chappe.tower(20, 1);
        Check.send(chappe, 0, 0, 1);
        Check.send(chappe, 1, 0, 1, 2);
        Check.sentence(32, "Returns how many signals all logs have.");
        chappe.pass(1);
        Check.due("two begins", chappe.signals(), 2L);
        chappe.pass(6);
        Check.due("taken, and the next ones put", chappe.signals(), 6L);
        chappe.pass(300);
        Check.due("all", chappe.signals(), 6L + 12L);
    }

    static void signalsNumber() {
        ChappeLine chappe = Check.lineOn(9, 0, 4);
        Check.sentence(32, "Returns the number of signals.");
        Check.due("none", chappe.signals(), 0L);
        Check.send(chappe, 0, 0, 1);
        Check.due("none put yet", chappe.signals(), 0L);
        chappe.pass(100);
        chappe.breakDown(0, true);
        Check.due("broken towers count", chappe.signals(), 6L);
        Check.send(chappe, 0, 0, 1);
        chappe.courier(1);
        chappe.pass(121);
        Check.due("couriers leave none", chappe.signals(), 6L);
    }

    // ---- 33: rightShare

    static void shareOfTheRight() {
        ChappeLine chappe = Check.lineOn(9, 0, 4);
        chappe.bribe(0, 1, 2);
        Check.send(chappe, 0, 0, 1);
        chappe.pass(100);
        Check.sentence(33, "Returns the share of the delivered messages that are right.");
        Check.due("no right one", chappe.rightShare(), 0.0f);
        Check.send(chappe, 0, 0, 1);
        chappe.pass(100);
        Check.due("one of two", chappe.rightShare(), 0.5f);
        chappe.setFog(0, 9);
        Check.send(chappe, 0, 0, 1);
        chappe.courier(2);
        Check.due("not by one on its way", chappe.rightShare(), 0.5f);
        Check.send(chappe, 0, 0, 1);
        Check.due("not by one that waits", chappe.rightShare(), 0.5f);
        chappe.pass(121);
        Check.due("by a courier's too", chappe.rightShare(), 2.0f / 3.0f);
    }

    static void shareAsFloat() {
        ChappeLine chappe = Check.lineOn(9, 0, 1);
        Check.sentence(33, "Returns their number divided by that of all delivered ones, "
                + "both converted to float.");
        for (int i = 1; i <= 20; i++) {
            if (i % 2 == 1) {
                chappe.bribe(0, 59, 58);
            }
            Check.send(chappe, 0, 0, 59);
            chappe.pass(30);
            Check.due("of " + i, chappe.rightShare(), (float) (i / 2) / (float) i);
        }
    }

    static void shareOfAllRight() {
        ChappeLine chappe = Check.lineOn(9, 0, 1);
        Check.send(chappe, 0, 0, 59);
        chappe.pass(30);
        Check.sentence(33, "Returns the share of the delivered messages that are right.");
        Check.due("all", chappe.rightShare(), 1.0f);
    }

    static void shareOfNone() {
        ChappeLine chappe = Check.lineOn(9, 0, 4);
        Check.sentence(33, "Throws `ArithmeticException` if none was delivered");
        Check.refuses("no message", Check.ARITHMETIC, () -> chappe.rightShare());
        Check.send(chappe, 0, 0, 59);
        Check.refuses("it waits", Check.ARITHMETIC, () -> chappe.rightShare());
        chappe.pass(16);
        Check.refuses("its end is on its way", Check.ARITHMETIC, () -> chappe.rightShare());
        chappe.pass(1);
        Check.due("delivered", chappe.rightShare(), 1.0f);
    }

    // ---- 34: meanMinutes

    static void meanOfTheDelivered() {
        ChappeLine chappe = Check.lineOn(9, 0, 4);
        chappe.pass(10);
        Check.send(chappe, 0, 0, 59);
        chappe.pass(100);
        Check.sentence(34, "Returns the mean time that delivered messages took.");
        Check.due("one", chappe.meanMinutes(), 16.0);
        chappe.setFog(0, 9);
        Check.send(chappe, 0, 0, 59);
        chappe.courier(1);
        Check.due("not one on its way", chappe.meanMinutes(), 16.0);
        chappe.pass(300);
        Check.due("the courier's too", chappe.meanMinutes(), 68.0);
    }

    static void meanAsDouble() {
        ChappeLine chappe = Check.lineOn(9, 0, 4);
        Check.sentence(34, "Returns the sum of the minutes from that in which each was put in "
                + "to that in which it was delivered, divided by their number, both converted to double.");
        chappe.bribe(0, 59, 58);
        long sum = 0;
        for (int i = 1; i <= 20; i++) {
            int putIn = chappe.minute();
            Check.send(chappe, 0, 0, i % 2 == 0 ? 59 : 7);
            chappe.pass(40 + i);
            sum += chappe.deliveredAt(i - 1) - putIn;
            Check.due("of " + i, chappe.meanMinutes(), (double) sum / (double) i);
        }
    }

    static void meanWithWaiting() {
        ChappeLine chappe = Check.lineOn(9, 0, 4);
        chappe.breakDown(0, true);
        Check.send(chappe, 0, 0, 59);
        chappe.pass(50);
        chappe.breakDown(0, false);
        chappe.pass(100);
        Check.sentence(34, "Returns the mean time that delivered messages took.");
        Check.due("from its put, not from its begin", chappe.meanMinutes(), 66.0);
    }

    static void meanOfNone() {
        ChappeLine chappe = Check.lineOn(9, 0, 4);
        Check.sentence(34, "Throws `ArithmeticException` if none was delivered");
        Check.refuses("no message", Check.ARITHMETIC, () -> chappe.meanMinutes());
        Check.send(chappe, 0, 0, 59);
        Check.refuses("it waits", Check.ARITHMETIC, () -> chappe.meanMinutes());
        chappe.pass(16);
        Check.refuses("its end is on its way", Check.ARITHMETIC, () -> chappe.meanMinutes());
        chappe.pass(1);
        Check.due("delivered", chappe.meanMinutes(), 16.0);
    }

    // ---- 35: isConsistent; what it answers where an invariant is broken, InsideTest tells

    static void consistentAllTheTime() {
        ChappeLine chappe = Check.lineOn(9, 0, 4, 8);
        chappe.doze(1, 9);
        chappe.bribe(2, 3, 4);
        Check.sentence(35, "Returns true if the invariants hold.");
        Check.due("without messages", chappe.isConsistent(), true);
        for (int i = 0; i < 10; i++) {
            Check.send(chappe, 0, i % 4, i, i + 1, i + 2);
            for (int j = 0; j < 20; j++) {
                chappe.pass(1);
                Check.due("in the minute " + (20 * i + j), chappe.isConsistent(), true);
            }
        }
    }

    static void consistentWithCouriers() {
        ChappeLine chappe = Check.lineOn(9, 0, 4);
        chappe.line();
        Check.addLine(chappe, 9, 20);
        Check.send(chappe, 0, 0, 1, 2);
        chappe.pass(9);
        chappe.setFog(2, 9);
        Check.send(chappe, 0, 3, 3, 4);
        chappe.courier(1);
        chappe.pass(200);
        Check.sentence(35, "Returns true if the invariants hold.");
        Check.due("with one by courier, and one on its way", chappe.isConsistent(), true);
        chappe.setFog(2, 0);
        chappe.breakDown(0, true);
        chappe.pass(30);
        Check.due("with a broken tower", chappe.isConsistent(), true);
    }
}
