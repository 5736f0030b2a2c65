import java.util.Map;
import java.util.TreeMap;

/** Long runs of all calls, wrong ones too, whose answers are compared with the model's. */
public final class ModelTest {
    private static final int RUNS = 1500;
    private static final int CALLS = 512;

    private static long seed;
    private static final Map<String, Integer> answers = new TreeMap<>();

    public static void main(String[] args) {
        for (int run = 0; run < RUNS; run++) {
            seed = run;
            oneRun(run);
        }
        if (args.length > 0) {
            answers.forEach((what, times) -> System.out.println(what + " " + times));
        }
        Check.end("ModelTest");
    }

    private static int below(int bound) {
        seed = seed * 6364136223846793005L + 1442695040888963407L;
        return (int) ((seed >>> 33) % bound);
    }

    /** Mostly from least to most, at times a little or far outside. */
    private static int about(int least, int most) {
        int kind = below(40);
        if (kind == 0) {
            return least - 1;
        }
        if (kind == 1) {
            return most + 1;
        }
        if (kind == 2) {
            return below(2) == 0 ? Integer.MIN_VALUE : Integer.MAX_VALUE;
        }
        return least + below(Math.max(1, most - least + 1));
    }

    private static void oneRun(int run) {
        ChappeLine chappe = new ChappeLine();
        Model model = new Model();
        int calls = 0;
        if (run % 4 != 0) {
            calls = prepare(chappe, model, run);
        }
        for (; calls < CALLS; calls++) {
            compare(run, oneCall(chappe, model));
        }
    }

    /** Lines that see well, for without them few messages come. */
    private static int prepare(ChappeLine chappe, Model model, int run) {
        int calls = 0;
        int lines = 1 + below(3);
        int cell = 0;
        for (int line = 0; line < lines; line++) {
            compare(run, new Object[] {"line", chappe.line(), model.line()});
            int towers = 2 + below(3);
            for (int i = 0; i < towers; i++) {
                int height = 1 + below(30);
                int number = chappe.tower(cell, height);
                compare(run, new Object[] {"tower", number, model.tower(cell, height)});
                compare(run, new Object[] {"extend", chappe.extend(line, number), model.extend(line, number)});
                cell += 1 + below(2);
                calls += 2;
            }
            calls++;
        }
        return calls;
    }

    private static void compare(int run, Object[] both) {
        answers.merge(both[0] + (both[1] instanceof String ? " " + both[1] : ""), 1, Integer::sum);
        Check.due("run " + run + ": " + both[0], both[1], both[2]);
    }

    private static Object[] both(String what, Check.Call one, Check.Call other) {
        return new Object[] {what, Check.answer(one), Check.answer(other)};
    }

    private static Object[] oneCall(ChappeLine x, Model y) {
        int kind = below(100);
        if (kind < 12) {
            int land = below(8);
            return land == 7 ? callOfLines(x, y) : callOfLand(x, y, land);
        }
        if (kind < 40) {
            return callOfMessages(x, y);
        }
        if (kind < 62) {
            int minutes = below(3) == 0 ? about(1, 300) : about(1, 25);
            return both("pass", () -> x.pass(minutes), () -> y.pass(minutes));
        }
        if (kind < 72) {
            return callOfLogs(x, y);
        }
        return kind < 92 ? callOfFates(x, y) : callOfFigures(x, y);
    }

    private static Object[] callOfLand(ChappeLine x, Model y, int kind) {
        int cell = about(0, 23);
        int one = about(0, Math.min(12, y.posts.size() - 1));
        int other = about(0, Math.min(12, y.posts.size() - 1));
        boolean flag = below(4) == 0;
        switch (kind) {
            case 0:
                int ground = below(4) == 0 ? about(0, 50) : about(0, 9);
                return both("setGround", () -> x.setGround(cell, ground), () -> y.setGround(cell, ground));
            case 1:
                int fog = below(4) == 0 ? about(0, 9) : about(0, 4);
                return both("setFog", () -> x.setFog(cell, fog), () -> y.setFog(cell, fog));
            case 2:
                int height = about(1, 30);
                return both("tower", () -> x.tower(cell, height), () -> y.tower(cell, height));
            case 3:
                return both("breakDown", () -> x.breakDown(one, flag), () -> y.breakDown(one, flag));
            case 4:
                return both("sees", () -> x.sees(one, other, flag), () -> y.sees(one, other, flag));
            case 5:
                int line = about(0, y.rows.size() - 1);
                return both("isBlind", () -> x.isBlind(line), () -> y.isBlind(line));
            default:
                return both("sees by weather", () -> x.sees(one, other, false), () -> y.sees(one, other, false));
        }
    }

    private static Object[] callOfLines(ChappeLine x, Model y) {
        if (below(4) == 0) {
            return both("line", () -> x.line(), () -> y.line());
        }
        int line = about(0, y.rows.size() - 1);
        int tower = about(0, y.posts.size() - 1);
        return both("extend", () -> x.extend(line, tower), () -> y.extend(line, tower));
    }

    private static Object[] callOfMessages(ChappeLine x, Model y) {
        int tower = about(0, y.posts.size() - 1);
        int signal = below(3) == 0 ? about(0, 59) : 8 + below(4);
        int number = about(0, 9);
        int book = about(0, y.books.size() - 1);
        int message = about(0, y.letters.size() - 1);
        switch (below(14)) {
            case 0:
            case 1:
                int rank = about(0, 3);
                int line = about(0, y.rows.size() - 1);
                return both("put", () -> x.put(line, rank), () -> y.put(line, rank));
            case 2:
                return both("courier", () -> x.courier(message), () -> y.courier(message));
            case 3:
                // Whether the day has begun between its first minute and the one ahead is not told.
                if (y.minute > 0 && y.minute % 1440 == 0) {
                    return both("minute", () -> x.minute(), () -> y.minute());
                }
                return both("doze", () -> x.doze(tower, number), () -> y.doze(tower, number));
            case 4:
                int set = about(0, 59);
                return both("bribe", () -> x.bribe(tower, signal, set), () -> y.bribe(tower, signal, set));
            case 5:
                int day = below(2) == 0 ? about(0, 99) : below(4);
                return both("book", () -> x.book(day), () -> y.book(day));
            case 6:
            case 7:
                int word = about(0, 9999);
                return both("setWord", () -> x.setWord(book, signal, word), () -> y.setWord(book, signal, word));
            default:
                return both("type", () -> x.type(signal), () -> y.type(signal));
        }
    }

    private static Object[] callOfLogs(ChappeLine x, Model y) {
        int tower = about(0, y.posts.size() - 1);
        int size = Check.answer(() -> y.logged(tower)) instanceof Integer ? y.logged(tower) : 0;
        int index = about(0, size - 1);
        switch (below(5)) {
            case 0:
                return both("minute", () -> x.minute(), () -> y.minute());
            case 1:
                return both("shows", () -> x.shows(tower), () -> y.shows(tower));
            case 2:
                return both("logged", () -> x.logged(tower), () -> y.logged(tower));
            default:
                char what = "rsmrsmrsmx".charAt(below(10));
                return both("inLog", () -> x.inLog(tower, index, what), () -> y.inLog(tower, index, what));
        }
    }

    private static Object[] callOfFates(ChappeLine x, Model y) {
        int message = about(0, y.letters.size() - 1);
        int size = Check.answer(() -> y.came(message)) instanceof Integer ? y.came(message) : 0;
        int index = about(0, size - 1);
        switch (below(8)) {
            case 0:
                return both("state", () -> x.state(message), () -> y.state(message));
            case 1:
                return both("came", () -> x.came(message), () -> y.came(message));
            case 2:
                return both("signalAt", () -> x.signalAt(message, index), () -> y.signalAt(message, index));
            case 3:
                return both("meaning", () -> x.meaning(message, index), () -> y.meaning(message, index));
            case 4:
                return both("deliveredAt", () -> x.deliveredAt(message), () -> y.deliveredAt(message));
            case 5:
                return both("isRight", () -> x.isRight(message), () -> y.isRight(message));
            case 6:
                return both("blame", () -> x.blame(message), () -> y.blame(message));
            default:
                return both("bill", () -> x.bill(message), () -> y.bill(message));
        }
    }

    private static Object[] callOfFigures(ChappeLine x, Model y) {
        switch (below(7)) {
            case 0:
                int from = about(0, 23);
                int to = about(0, 23);
                int height = below(2) == 0 ? about(1, 30) : 1 + below(3);
                return both("plan", () -> x.plan(from, to, height), () -> y.plan(from, to, height));
            case 1:
            case 2:
                int index = about(0, y.plan.size() - 1);
                return both("planned", () -> x.planned(index), () -> y.planned(index));
            case 3:
                return both("signals", () -> x.signals(), () -> y.signals());
            case 4:
                return both("rightShare", () -> x.rightShare(), () -> y.rightShare());
            case 5:
                return both("meanMinutes", () -> x.meanMinutes(), () -> y.meanMinutes());
            default:
                return both("isConsistent", () -> x.isConsistent(), () -> y.isConsistent());
        }
    }
}
