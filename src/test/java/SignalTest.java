/** The terms of signals, messages and a minute, sentence by sentence. */
public final class SignalTest {
    private static final String STEPS = "To set a signal, a tower needs as many minutes as its bits that differ "
            + "from those of the signal that it set last, 0 at first, at least 1; while it sets, it shows none.";
    private static final String MESSAGES = "At most 20 messages are numbered from 0, each a text of 1 to 12 "
            + "signals, for a line, with a rank from 0 to 3.";
    private static final String NEXT_ONE = "Of the messages of a line that wait, the one with the greatest rank is "
            + "the next one, of several that with the lowest number.";
    private static final String BREAKING_OFF = "If the next one's rank is greater than that of the message that is "
            + "being put, 'suspend' is put instead of the latter's next signal, 'end' too; it waits again then, "
            + "and goes on, when it is the next one, with 'go on' and the signal that was to be put.";
    private static final String BROKEN = "A broken tower does nothing, and goes on as it was when it is mended.";
    private static final String TAKING = "A ready tower that is not the first one takes the signal of the one "
            + "ahead of it, if this shows one that was not taken, and they see each other; it sets that then.";

    public static void main(String[] args) {
        Check.runAll(SignalTest.class);
    }

    // ---- signals

    static void numbers() {
        ChappeLine chappe = Check.lineOn(9, 0, 1);
        Check.sentence(0, "A signal is a number from 0 to 63: 63 is 'end', 62 'suspend', 61 'begin', 60 'go on', "
                + "the others are of texts.");
        Check.send(chappe, 0, 0, 0, 59);
        chappe.pass(7);
        Check.send(chappe, 0, 1, 58);
        chappe.pass(200);
        Check.due("each of them", Check.log(chappe, 1, 'r'), "61 0 62 61 58 63 60 59 63");
        Check.due("texts of 0 and 59", Check.text(chappe, 0), "0 59");
        Check.refuses("60 is not of texts", Check.ARGUMENT, () -> chappe.type(60));
    }

    /** Two signals of a text, and the minutes that the second one needs behind the first one. */
    private static final int[][] NEEDED = {
        {0, 0, 1}, {59, 59, 1}, {0, 1, 1}, {0, 2, 1}, {0, 32, 1}, {58, 59, 1}, {0, 3, 2}, {0, 33, 2}, {12, 0, 2},
        {7, 0, 3}, {21, 0, 3}, {15, 0, 4}, {0, 45, 4}, {0, 31, 5}, {0, 59, 5}, {59, 0, 5}, {4, 59, 6}, {21, 42, 6},
        {31, 32, 6}, {16, 47, 6}
    };

    static void minutesToSet() {
        Check.sentence(0, STEPS);
        for (int[] needed : NEEDED) {
            String what = needed[1] + " behind " + needed[0];
            ChappeLine chappe = Check.lineOn(9, 0, 1);
            Check.send(chappe, 0, 0, needed[0], needed[1]);
            Check.due(what + ", put", minutesOfTheThird(chappe, 0), needed[2]);
            Check.due(what + ", taken", minutesOfTheThird(chappe, 1), needed[2]);
        }
    }

    /** How many minutes from that in which its third signal was logged to that in which it was shown. */
    private static int minutesOfTheThird(ChappeLine chappe, int tower) {
        Check.passWhile(chappe, () -> chappe.logged(tower) < 3);
        Check.passWhile(chappe, () -> chappe.shows(tower) == -1);
        return chappe.minute() - 1 - chappe.inLog(tower, 2, 'm');
    }

    static void minutesAtFirst() {
        ChappeLine chappe = Check.lineOn(9, 0, 1, 2);
        Check.send(chappe, 0, 0, 7);
        Check.sentence(0, STEPS);
        for (int tower = 0; tower < 3; tower++) {
            // Begin is 111101.
            Check.passUntil(chappe, 6 * tower + 5);
            Check.due("sets five minutes", chappe.shows(tower), -1);
            chappe.pass(1);
            Check.due("shows then", chappe.shows(tower), 61);
        }
    }

    static void minutesByWhatWasSet() {
        ChappeLine chappe = Check.lineOn(9, 0, 1);
        chappe.bribe(0, 5, 0);
        Check.send(chappe, 0, 0, 5, 0);
        Check.sentence(0, STEPS);
        Check.due("by the 0 that it set, not the 5 that was to be put", minutesOfTheThird(chappe, 0), 1);
    }

    static void showsNoneWhileItSets() {
        ChappeLine chappe = Check.lineOn(9, 0, 1);
        Check.send(chappe, 0, 0, 0);
        Check.sentence(0, STEPS);
        // The begin from 0 to 5, the text's 0 from 6 to 11, the end from 12 to 18.
        String shown = "";
        for (int i = 0; i < 20; i++) {
            chappe.pass(1);
            shown += chappe.shows(0) + " ";
        }
        Check.due("minute by minute", shown,
                "-1 -1 -1 -1 -1 61 -1 -1 -1 -1 -1 0 -1 -1 -1 -1 -1 -1 63 63 ");
    }

    static void showNoneAtFirst() {
        ChappeLine chappe = Check.lineOn(9, 0, 1);
        chappe.tower(5, 1);
        Check.sentence(0, "At first towers show none.");
        for (int tower = 0; tower < 3; tower++) {
            Check.due("built", chappe.shows(tower), -1);
        }
        chappe.pass(300);
        for (int tower = 0; tower < 3; tower++) {
            Check.due("without messages", chappe.shows(tower), -1);
        }
    }

    // ---- messages

    static void twentyMessages() {
        ChappeLine chappe = Check.lineOn(9, 0, 1);
        Check.addLine(chappe, 9, 10, 11);
        Check.sentence(0, MESSAGES);
        for (int i = 0; i < 20; i++) {
            Check.due("number", Check.send(chappe, i / 10, 0, i), i);
        }
        chappe.type(0);
        Check.refuses("a twenty-first", Check.STATE, () -> chappe.put(0, 0));
        Check.due("all are delivered", Check.passUntil(chappe, 300), 20);
        for (int i = 0; i < 20; i++) {
            Check.due("the text of " + i, Check.text(chappe, i), "" + i);
        }
        Check.refuses("no twenty-first", Check.INDEX, () -> chappe.state(20));
    }

    static void textsOf1To12() {
        ChappeLine chappe = Check.lineOn(9, 0, 1);
        Check.sentence(0, MESSAGES);
        Check.refuses("none", Check.UNSUPPORTED, () -> chappe.put(0, 0));
        Check.due("one", Check.send(chappe, 0, 0, 9), 0);
        Check.type(chappe, 1, 2, 3, 4, 5, 6, 7, 8, 9, 10, 11, 12);
        Check.refuses("thirteen", Check.STATE, () -> chappe.type(13));
        Check.due("twelve", chappe.put(0, 0), 1);
        chappe.pass(200);
        Check.due("one came", Check.text(chappe, 0), "9");
        Check.due("twelve came", Check.text(chappe, 1), "1 2 3 4 5 6 7 8 9 10 11 12");
    }

    static void ranks() {
        ChappeLine chappe = Check.lineOn(9, 0, 1);
        chappe.type(1);
        Check.sentence(0, MESSAGES);
        Check.refuses("-1", Check.ARGUMENT, () -> chappe.put(0, -1));
        Check.refuses("4", Check.ARGUMENT, () -> chappe.put(0, 4));
        Check.due("0", chappe.put(0, 0), 0);
        chappe.type(1);
        Check.due("3", chappe.put(0, 3), 1);
        chappe.pass(200);
        Check.due("by its rank", chappe.bill(0), 2);
        Check.due("by the other one's rank", chappe.bill(1), 8);
    }

    static void putFromBeginToEnd() {
        ChappeLine chappe = Check.lineOn(9, 0, 1);
        Check.send(chappe, 0, 0, 3, 2, 1);
        Check.send(chappe, 0, 0, 7);
        chappe.pass(200);
        Check.sentence(0, "A message that begins is put as 'begin', then its text, then 'end'.");
        Check.due("both", Check.log(chappe, 0, 'r'), "61 3 2 1 63 61 7 63");
    }

    static void nextMessage() {
        ChappeLine chappe = Check.lineOn(9, 0, 1);
        Check.addLine(chappe, 9, 10, 11);
        int[] ranks = {1, 0, 3, 1, 3, 0, 2, 2};
        for (int i = 0; i < ranks.length; i++) {
            Check.send(chappe, 0, ranks[i], i);
        }
        Check.send(chappe, 1, 3, 8);
        chappe.pass(300);
        Check.sentence(0, NEXT_ONE);
        Check.due("2 4, 6 7, 0 3, 1 5", Check.log(chappe, 0, 'r'), "61 2 63 61 4 63 61 6 63 61 7 63 "
                + "61 0 63 61 3 63 61 1 63 61 5 63");
        Check.due("not those of another line", Check.log(chappe, 2, 'r'), "61 8 63");
    }

    static void brokenOffOnesWaitByNumber() {
        ChappeLine chappe = Check.lineOn(9, 0, 1);
        Check.send(chappe, 0, 1, 10, 11);
        chappe.pass(1);
        Check.send(chappe, 0, 1, 20);
        Check.send(chappe, 0, 2, 30);
        Check.send(chappe, 0, 0, 40);
        chappe.pass(300);
        Check.sentence(0, NEXT_ONE);
        Check.due("the broken one is ahead of the other one of its rank", Check.log(chappe, 0, 'r'),
                "61 62 61 30 63 60 10 11 63 61 20 63 61 40 63");
    }

    static void breaksOff() {
        Check.sentence(0, BREAKING_OFF);
        String[] wholes = {
            "61 62 61 20 63 60 10 11 63", "61 10 62 61 20 63 60 11 63", "61 10 11 62 61 20 63 60 63",
            "61 10 11 63 61 20 63"
        };
        for (int put = 1; put <= 4; put++) {
            int signals = put;
            ChappeLine chappe = Check.lineOn(9, 0, 1);
            Check.send(chappe, 0, 2, 10, 11);
            Check.passWhile(chappe, () -> chappe.logged(0) < signals);
            Check.send(chappe, 0, 3, 20);
            boolean isOver = signals == 4;
            for (int i = 0; i < 50 && chappe.logged(0) == signals; i++) {
                Check.due("up to the next signal", chappe.state(0) == 'b', false);
                chappe.pass(1);
            }
            Check.due("waits again behind " + signals, chappe.state(0) == 'b', !isOver);
            chappe.pass(200);
            Check.due("behind " + signals, Check.log(chappe, 0, 'r'), wholes[signals - 1]);
            Check.due("taken likewise", Check.log(chappe, 1, 'r'), wholes[signals - 1]);
            Check.due("whole", Check.text(chappe, 0), "10 11");
            Check.due("right", chappe.isRight(1), true);
        }
    }

    static void breaksOffByAGreaterRankAlone() {
        Check.sentence(0, BREAKING_OFF);
        for (int rank = 0; rank <= 3; rank++) {
            for (int other = 0; other <= 3; other++) {
                ChappeLine chappe = Check.lineOn(9, 0, 1);
                Check.send(chappe, 0, rank, 10, 11);
                chappe.pass(1);
                Check.send(chappe, 0, other, 20);
                chappe.pass(200);
                Check.due(other + " while " + rank + " is put", Check.log(chappe, 0, 'r'),
                        other > rank ? "61 62 61 20 63 60 10 11 63" : "61 10 11 63 61 20 63");
            }
        }
    }

    static void breaksOffAgain() {
        ChappeLine chappe = Check.lineOn(9, 0, 1);
        Check.send(chappe, 0, 0, 10, 11);
        chappe.pass(1);
        Check.send(chappe, 0, 1, 20);
        Check.passWhile(chappe, () -> chappe.logged(0) < 6);
        Check.sentence(0, BREAKING_OFF);
        Check.due("goes on", Check.log(chappe, 0, 'r'), "61 62 61 20 63 60");
        Check.send(chappe, 0, 1, 21);
        chappe.pass(200);
        Check.due("and is broken off behind the go on", Check.log(chappe, 0, 'r'),
                "61 62 61 20 63 60 62 61 21 63 60 10 11 63");
        Check.due("whole", Check.text(chappe, 0), "10 11");
    }

    static void breaksOffThreeDeep() {
        ChappeLine chappe = Check.lineOn(9, 0, 1);
        for (int rank = 0; rank < 4; rank++) {
            Check.send(chappe, 0, rank, 10 * rank, 10 * rank + 1);
            int begun = 3 * rank + 2;
            if (rank < 3) {
                Check.passWhile(chappe, () -> chappe.logged(0) < begun);
            }
        }
        chappe.pass(300);
        Check.sentence(0, BREAKING_OFF);
        Check.due("each in the other one", Check.log(chappe, 0, 'r'),
                "61 0 62 61 10 62 61 20 62 61 30 31 63 60 21 63 60 11 63 60 1 63");
        for (int i = 0; i < 4; i++) {
            Check.due("whole", Check.text(chappe, i), 10 * i + " " + (10 * i + 1));
        }
    }

    static void breaksOffForTheNextOneOfThen() {
        ChappeLine chappe = Check.lineOn(9, 0, 1);
        Check.send(chappe, 0, 0, 10);
        chappe.pass(1);
        Check.send(chappe, 0, 1, 20);
        Check.passWhile(chappe, () -> chappe.logged(0) < 2);
        Check.send(chappe, 0, 3, 30);
        chappe.pass(300);
        Check.sentence(0, BREAKING_OFF);
        Check.due("the one that came while the suspend was set", Check.log(chappe, 0, 'r'),
                "61 62 61 30 63 61 20 63 60 10 63");
    }

    // ---- a minute

    static void fromTheLastToTheFirst() {
        ChappeLine chappe = Check.lineOn(9, 0, 1, 2);
        Check.addLine(chappe, 9, 12, 11, 10);
        Check.send(chappe, 0, 0, 0);
        Check.send(chappe, 1, 0, 0);
        Check.sentence(0, "Each line, by rising numbers, is gone through from its last tower to its first one.");
        Check.due("both in these", chappe.pass(33), 2);
        for (int line = 0; line < 2; line++) {
            // What a tower shows in a minute was looked for by the one behind it ahead of that;
            // what is taken in a minute lets the tower ahead go on in the same minute.
            Check.due("the first one", Check.log(chappe, 3 * line, 'm'), "0 6 12");
            Check.due("the second one", Check.log(chappe, 3 * line + 1, 'm'), "6 12 19");
            Check.due("the last one", Check.log(chappe, 3 * line + 2, 'm'), "12 18 26");
            Check.due("the end", chappe.deliveredAt(line), 32);
        }
    }

    static void brokenWhileItSets() {
        ChappeLine chappe = Check.lineOn(9, 0, 4);
        Check.send(chappe, 0, 0, 0);
        chappe.pass(3);
        Check.sentence(0, BROKEN);
        chappe.breakDown(0, true);
        chappe.pass(100);
        Check.due("it does not set", chappe.shows(0), -1);
        chappe.breakDown(0, false);
        chappe.pass(2);
        Check.due("it goes on", chappe.shows(0), -1);
        chappe.pass(1);
        Check.due("with the three minutes that were left", chappe.shows(0), 61);
    }

    static void brokenFirstTower() {
        ChappeLine chappe = Check.lineOn(9, 0, 4);
        Check.send(chappe, 0, 0, 0);
        Check.sentence(0, BROKEN);
        chappe.breakDown(0, true);
        chappe.pass(100);
        Check.due("it puts nothing", chappe.logged(0), 0);
        Check.due("the message waits", chappe.state(0), 'w');
        chappe.breakDown(0, false);
        chappe.pass(1);
        Check.due("it puts", Check.log(chappe, 0, 'm'), "100");
    }

    static void brokenTowerThatShows() {
        ChappeLine chappe = Check.lineOn(9, 0, 4);
        Check.send(chappe, 0, 0, 0);
        chappe.pass(6);
        Check.sentence(0, BROKEN);
        chappe.breakDown(0, true);
        chappe.pass(50);
        Check.due("nothing is taken from it", chappe.logged(1), 0);
        chappe.breakDown(0, false);
        Check.due("it shows as it did", chappe.shows(0), 61);
        chappe.breakDown(1, true);
        chappe.pass(50);
        Check.due("it takes nothing", chappe.logged(1), 0);
        Check.due("and the first one waits for it", chappe.logged(0), 1);
        chappe.breakDown(1, false);
        chappe.pass(1);
        Check.due("it takes when it is mended", Check.log(chappe, 1, 'm'), "106");
    }

    static void brokenLastTower() {
        ChappeLine chappe = Check.lineOn(9, 0, 4);
        Check.send(chappe, 0, 0, 59);
        chappe.pass(16);
        Check.sentence(0, BROKEN);
        chappe.breakDown(1, true);
        Check.due("one minute ahead of the end", chappe.pass(100), 0);
        Check.due("it is on its way", chappe.state(0), 'l');
        chappe.breakDown(1, false);
        Check.due("delivered in the next minute", chappe.pass(1), 1);
    }

    static void oneMinuteLessToGo() {
        ChappeLine chappe = Check.lineOn(9, 0, 4);
        Check.send(chappe, 0, 0, 59);
        Check.sentence(0, "A tower that is setting has one minute less to go; with none left, it shows its signal, "
                + "which the last tower of the line delivers at once.");
        chappe.pass(5);
        Check.due("one minute is left", chappe.shows(0), -1);
        chappe.pass(1);
        Check.due("none is left", chappe.shows(0), 61);
        // The last tower takes 59 in 12, two bits from the begin, and the end in 15, one bit more.
        chappe.pass(8);
        Check.due("the last tower has one minute left", chappe.shows(1), -1);
        Check.due("nothing came", chappe.came(0), 0);
        chappe.pass(1);
        Check.due("the last tower shows", chappe.shows(1), 59);
        Check.due("and delivers at once", chappe.came(0), 1);
        Check.due("the end is taken", chappe.pass(1), 0);
        Check.due("and delivered at once", chappe.pass(1), 1);
        Check.due("in this minute", chappe.deliveredAt(0), 16);
    }

    static void readyTowers() {
        ChappeLine chappe = Check.lineOn(9, 0, 4, 8);
        Check.send(chappe, 0, 0, 3);
        chappe.setGround(6, 20);
        chappe.pass(100);
        Check.sentence(0, "Another tower is ready, if it shows none, or what it shows was taken by the tower "
                + "behind it, or delivered.");
        Check.due("the second one took, as it showed none", chappe.logged(1), 1);
        Check.due("not again, as nobody took it", chappe.shows(1), 61);
        Check.due("the first one was ready by that", chappe.logged(0), 2);
        Check.due("not again, as nobody took this", chappe.shows(0), 3);
        chappe.setGround(6, 0);
        chappe.pass(1);
        Check.due("the third one took", chappe.logged(2), 1);
        Check.due("the second one is ready in the same minute", chappe.logged(1), 2);
        Check.due("the first one too", chappe.logged(0), 3);
        chappe.pass(5);
        Check.due("the third one delivered", chappe.shows(2), 61);
        chappe.pass(1);
        Check.due("and is ready", chappe.logged(2), 2);
    }

    static void takesOnce() {
        ChappeLine chappe = Check.lineOn(9, 0, 4, 8);
        Check.send(chappe, 0, 0, 7, 7, 7);
        chappe.pass(7);
        chappe.breakDown(0, true);
        chappe.pass(100);
        Check.sentence(0, TAKING);
        Check.due("the begin was taken once by the second one", chappe.logged(1), 1);
        Check.due("and by the third one", chappe.logged(2), 1);
        chappe.breakDown(0, false);
        chappe.pass(200);
        Check.due("each of the same signals once", Check.log(chappe, 1, 'r'), "61 7 7 7 63");
        Check.due("by the third one too", Check.log(chappe, 2, 'r'), "61 7 7 7 63");
        Check.due("it set them", Check.log(chappe, 2, 's'), "61 7 7 7 63");
    }

    static void takesWhatItSees() {
        ChappeLine chappe = Check.lineOn(9, 0, 4);
        Check.send(chappe, 0, 0, 3);
        Check.sentence(0, TAKING);
        chappe.setFog(4, 5);
        chappe.pass(20);
        Check.due("not by fog", chappe.logged(1), 0);
        chappe.setFog(4, 4);
        chappe.setGround(3, 9);
        chappe.pass(20);
        Check.due("not over a hill", chappe.logged(1), 0);
        chappe.setGround(3, 8);
        chappe.pass(1);
        Check.due("by mist over a lower hill", Check.log(chappe, 1, 'm'), "40");
        chappe.setFog(4, 9);
        chappe.pass(5);
        Check.due("it sets by fog too", chappe.shows(1), 61);
    }

    static void firstTowerPuts() {
        ChappeLine chappe = Check.lineOn(9, 0, 4);
        chappe.pass(10);
        Check.sentence(0, "The first tower, when it is ready, puts: the 'begin' or 'go on' of the next message, "
                + "if none is being put, and otherwise as told above; the 'end' is put behind the last signal "
                + "of the text, if this is not suspended then.");
        Check.due("nothing without messages", chappe.logged(0), 0);
        Check.send(chappe, 0, 0, 10);
        chappe.pass(6);
        Check.due("a begin at once", Check.log(chappe, 0, 'm'), "10");
        Check.due("only when it is ready", chappe.shows(0), 61);
        chappe.pass(1);
        Check.send(chappe, 0, 1, 20);
        chappe.pass(200);
        Check.due("a suspend instead of the end, then begin, go on and end", Check.log(chappe, 0, 'r'),
                "61 10 62 61 20 63 60 63");
        int minute = chappe.minute();
        Check.send(chappe, 0, 0, 30);
        chappe.pass(1);
        Check.due("at once, as its last one was taken", chappe.inLog(0, 8, 'm'), minute);
        chappe.pass(200);
        Check.due("an end behind the last signal", chappe.inLog(0, 10, 'r'), 63);
    }

    static void putIsSetLikewise() {
        ChappeLine chappe = Check.lineOn(9, 0, 4);
        chappe.doze(0, 2);
        Check.send(chappe, 0, 0, 7, 7);
        Check.sentence(0, "It sets that likewise.");
        chappe.pass(1);
        Check.due("it sets", chappe.shows(0), -1);
        chappe.pass(100);
        Check.due("in minutes by bits", Check.log(chappe, 0, 'm'), "0 6 12 18");
        Check.due("by its man", Check.log(chappe, 0, 's'), "61 6 7 63");
    }

    static void signalsStandInLogs() {
        ChappeLine chappe = Check.lineOn(9, 0, 4);
        chappe.bribe(0, 3, 5);
        chappe.bribe(1, 4, 6);
        Check.send(chappe, 0, 0, 3, 4);
        Check.sentence(0, "Each signal that is taken or put stands in the tower's log: what was read, "
                + "or was to be put, what it sets, and the minute.");
        Check.due("none", chappe.logged(0) + chappe.logged(1), 0);
        chappe.pass(100);
        Check.due("what was to be put", Check.log(chappe, 0, 'r'), "61 3 4 63");
        Check.due("what it set", Check.log(chappe, 0, 's'), "61 5 4 63");
        Check.due("what was read", Check.log(chappe, 1, 'r'), "61 5 4 63");
        Check.due("what that set", Check.log(chappe, 1, 's'), "61 5 6 63");
        Check.due("minutes of the put", Check.log(chappe, 0, 'm'), "0 6 12 16");
        Check.due("minutes of the taking", Check.log(chappe, 1, 'm'), "6 12 16 22");
    }
}
