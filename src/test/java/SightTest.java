/** The terms of sight and of lines, sentence by sentence. */
public final class SightTest {
    private static final String TOWERS = "At most 12 towers are numbered from 0, each on a cell of its own, with a "
            + "height; its eye is at the ground there and this height.";
    private static final String OVER_THE_GROUND = "Two towers at most 8 cells apart see each other over the "
            + "ground, if on each cell between them the ground is less than the straight line from eye to eye is "
            + "there, exactly.";
    private static final String SEEING = "They see each other, if they do so over the ground, no cell from the one "
            + "to the other one, both included, has a fog of more than 4, and neither is broken.";

    public static void main(String[] args) {
        Check.runAll(SightTest.class);
    }

    private static ChappeLine twoTowers(int one, int oneHeight, int other, int otherHeight) {
        ChappeLine chappe = new ChappeLine();
        chappe.tower(one, oneHeight);
        chappe.tower(other, otherHeight);
        return chappe;
    }

    private static void dueBothWays(String what, ChappeLine chappe, boolean ground, boolean isSeen) {
        Check.due(what, chappe.sees(0, 1, ground), isSeen);
        Check.due(what + ", from the other side", chappe.sees(1, 0, ground), isSeen);
    }

    static void cells() {
        ChappeLine chappe = new ChappeLine();
        Check.sentence(0, "The land is a row of 24 cells, each with a ground, 0 at first.");
        for (int cell = 0; cell < 24; cell++) {
            Check.due("ground of " + cell, chappe.setGround(cell, cell + 1), 0);
        }
        for (int cell = 0; cell < 24; cell++) {
            Check.due("its own ground of " + cell, chappe.setGround(cell, 0), cell + 1);
        }
        Check.refuses("no cell ahead of it", Check.INDEX, () -> chappe.setGround(-1, 0));
        Check.refuses("no cell behind it", Check.INDEX, () -> chappe.setGround(24, 0));
    }

    static void towers() {
        ChappeLine chappe = new ChappeLine();
        Check.sentence(0, TOWERS);
        for (int i = 0; i < 12; i++) {
            Check.due("number", chappe.tower(i, 1), i);
        }
        Check.refuses("a thirteenth", Check.STATE, () -> chappe.tower(12, 1));
        Check.due("the first one is there", chappe.shows(0), -1);
        Check.due("the last one is there", chappe.shows(11), -1);
        Check.refuses("no thirteenth", Check.INDEX, () -> chappe.shows(12));
    }

    static void towersOnCellsOfTheirOwn() {
        ChappeLine chappe = new ChappeLine();
        chappe.tower(5, 1);
        Check.sentence(0, TOWERS);
        Check.refuses("a second one on it", Check.UNSUPPORTED, () -> chappe.tower(5, 2));
        Check.due("ahead of it", chappe.tower(4, 2), 1);
        Check.due("behind it", chappe.tower(6, 2), 2);
    }

    static void eyes() {
        ChappeLine chappe = twoTowers(3, 2, 5, 4);
        Check.sentence(0, TOWERS);
        chappe.setGround(4, 3);
        dueBothWays("2 and 4 high, 3 between", chappe, true, false);
        chappe.setGround(3, 1);
        dueBothWays("the one on a ground of 1", chappe, true, true);
        chappe.setGround(4, 26);
        chappe.setGround(5, 45);
        dueBothWays("3 and 49, 26 between", chappe, true, false);
        chappe.setGround(5, 46);
        dueBothWays("3 and 50, 26 between", chappe, true, true);
        chappe.setGround(5, 0);
        chappe.setGround(3, 0);
        chappe.setGround(4, 2);
        dueBothWays("as at first, 2 between", chappe, true, true);
    }

    static void atMostEightApart() {
        Check.sentence(0, OVER_THE_GROUND);
        for (int one = 0; one < 24; one++) {
            for (int other = 0; other < 24; other++) {
                if (one != other) {
                    ChappeLine chappe = twoTowers(one, 1, other, 30);
                    boolean isNear = other - one <= 8 && one - other <= 8;
                    Check.due("over the ground from " + one + " to " + other, chappe.sees(0, 1, true), isNear);
                    Check.due("from " + one + " to " + other, chappe.sees(0, 1, false), isNear);
                }
            }
        }
    }

    /** On each cell between, the last ground that is less than the line and the first that is not. */
    static void lessThanTheLine() {
        Check.sentence(0, OVER_THE_GROUND);
        for (int width = 2; width <= 8; width++) {
            for (int one = 1; one <= 30; one++) {
                for (int other = 1; other <= 30; other += 1 + (one + width) % 3) {
                    lessThanTheLine(width, one, other);
                }
            }
        }
    }

    private static void lessThanTheLine(int width, int one, int other) {
        int first = (one + other) % (24 - width);
        ChappeLine chappe = twoTowers(first, one, first + width, other);
        for (int between = 1; between < width; between++) {
            // The line is at 'parts' of the width there.
            int parts = one * (width - between) + other * between;
            int less = 0;
            while ((less + 1) * width < parts) {
                less++;
            }
            String what = one + " to " + other + " over " + width + " at " + between;
            chappe.setGround(first + between, less);
            Check.due(what + ", below", chappe.sees(0, 1, true), true);
            Check.due(what + ", below, from the other side", chappe.sees(1, 0, false), true);
            chappe.setGround(first + between, less + 1);
            Check.due(what + ", not below", chappe.sees(0, 1, true), false);
            Check.due(what + ", not below, from the other side", chappe.sees(1, 0, false), false);
            chappe.setGround(first + between, 0);
        }
    }

    static void onlyCellsBetweenCount() {
        ChappeLine chappe = twoTowers(8, 1, 9, 1);
        Check.sentence(0, OVER_THE_GROUND);
        chappe.setGround(8, 50);
        dueBothWays("none is between neighbours", chappe, true, true);
        chappe.setGround(9, 50);
        dueBothWays("none is between neighbours on hills", chappe, true, true);
        chappe.tower(11, 1);
        chappe.setGround(8, 50);
        chappe.setGround(9, 0);
        chappe.setGround(12, 50);
        Check.due("hills ahead and behind", chappe.sees(1, 2, true), true);
        chappe.setGround(10, 1);
        Check.due("a hill between", chappe.sees(1, 2, true), false);
    }

    static void eachCellBetweenCounts() {
        Check.sentence(0, OVER_THE_GROUND);
        for (int cell = 0; cell < 24; cell++) {
            ChappeLine chappe = twoTowers(7, 9, 15, 9);
            chappe.setGround(cell, 9);
            dueBothWays("a hill on " + cell, chappe, true, cell <= 7 || cell >= 15);
        }
    }

    static void fogOnTheWay() {
        Check.sentence(0, SEEING);
        for (int cell = 0; cell < 24; cell++) {
            ChappeLine chappe = twoTowers(16, 3, 8, 3);
            boolean isOnTheWay = cell >= 8 && cell <= 16;
            chappe.setFog(cell, 4);
            dueBothWays("4 on " + cell, chappe, false, true);
            chappe.setFog(cell, 5);
            dueBothWays("5 on " + cell, chappe, false, !isOnTheWay);
            dueBothWays("5 on " + cell + ", over the ground", chappe, true, true);
            chappe.setFog(cell, 9);
            dueBothWays("9 on " + cell, chappe, false, !isOnTheWay);
            chappe.setFog(cell, 0);
            dueBothWays("0 on " + cell, chappe, false, true);
        }
    }

    static void mistEverywhere() {
        ChappeLine chappe = twoTowers(8, 3, 16, 3);
        Check.sentence(0, SEEING);
        for (int cell = 0; cell < 24; cell++) {
            chappe.setFog(cell, 4);
        }
        dueBothWays("4 on each cell is not more than 4", chappe, false, true);
    }

    static void neitherIsBroken() {
        ChappeLine chappe = twoTowers(8, 3, 16, 3);
        chappe.tower(12, 3);
        Check.sentence(0, SEEING);
        chappe.breakDown(2, true);
        dueBothWays("one between is broken", chappe, false, true);
        chappe.breakDown(0, true);
        dueBothWays("the one is broken", chappe, false, false);
        chappe.breakDown(1, true);
        dueBothWays("both are broken", chappe, false, false);
        chappe.breakDown(0, false);
        dueBothWays("the other one is broken", chappe, false, false);
        dueBothWays("over the ground", chappe, true, true);
        chappe.breakDown(1, false);
        dueBothWays("both are mended", chappe, false, true);
    }

    static void groundIsAskedToo() {
        ChappeLine chappe = twoTowers(8, 3, 16, 3);
        Check.sentence(0, SEEING);
        chappe.setGround(10, 3);
        dueBothWays("a hill", chappe, false, false);
        chappe.setGround(10, 2);
        dueBothWays("a lower hill", chappe, false, true);
    }

    static void fogs() {
        ChappeLine chappe = new ChappeLine();
        Check.sentence(0, "A cell has a fog from 0 to 9, 0 at first.");
        for (int cell = 0; cell < 24; cell++) {
            Check.due("fog of " + cell, chappe.setFog(cell, cell % 9 + 1), 0);
        }
        for (int cell = 0; cell < 24; cell++) {
            Check.due("its own fog of " + cell, chappe.setFog(cell, 0), cell % 9 + 1);
        }
        Check.refuses("-1", Check.ARGUMENT, () -> chappe.setFog(3, -1));
        Check.refuses("10", Check.ARGUMENT, () -> chappe.setFog(3, 10));
    }

    static void lines() {
        ChappeLine chappe = new ChappeLine();
        Check.sentence(0, "At most 4 lines are numbered from 0; a line is a row of towers, at least 2 for messages.");
        for (int i = 0; i < 4; i++) {
            Check.due("number", chappe.line(), i);
        }
        Check.refuses("a fifth", Check.STATE, () -> chappe.line());
        chappe.type(1);
        Check.refuses("without towers", Check.UNSUPPORTED, () -> chappe.put(3, 0));
        chappe.extend(3, chappe.tower(5, 9));
        Check.refuses("with one tower", Check.UNSUPPORTED, () -> chappe.put(3, 0));
        chappe.extend(3, chappe.tower(1, 9));
        Check.due("with two towers", chappe.put(3, 0), 0);
        Check.due("they pass it on", chappe.pass(100), 1);
    }

    static void inOneLine() {
        ChappeLine chappe = new ChappeLine();
        chappe.tower(0, 1);
        chappe.line();
        chappe.line();
        Check.sentence(0, "A tower is in at most one line.");
        Check.due("in none, so it can be in one", chappe.extend(1, 0), 1);
        Check.refuses("not in another one too", Check.UNSUPPORTED, () -> chappe.extend(0, 0));
        Check.refuses("nor in the same one again", Check.UNSUPPORTED, () -> chappe.extend(1, 0));
    }
}
