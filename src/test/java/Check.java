import java.lang.reflect.InvocationTargetException;
import java.lang.reflect.Method;
import java.lang.reflect.Modifier;
import java.util.Arrays;
import java.util.Comparator;

/** Compares answers with those that are due, and counts. */
final class Check {
    interface Call {
        Object run();
    }

    interface Condition {
        boolean holds();
    }

    static final Class<IndexOutOfBoundsException> INDEX = IndexOutOfBoundsException.class;
    static final Class<IllegalArgumentException> ARGUMENT = IllegalArgumentException.class;
    static final Class<UnsupportedOperationException> UNSUPPORTED = UnsupportedOperationException.class;
    static final Class<IllegalStateException> STATE = IllegalStateException.class;
    static final Class<java.util.NoSuchElementException> NO_ELEMENT = java.util.NoSuchElementException.class;
    static final Class<ArithmeticException> ARITHMETIC = ArithmeticException.class;

    private static int passed = 0;
    private static int failed = 0;
    private static String sentence = "";
    private static int passedAhead = 0;

    private Check() {
    }

    /** Names the sentence of the document that the next answers are for; its terms are promise 0. */
    static void sentence(int promise, String words) {
        endSentence();
        sentence = promise + ": " + words;
        passedAhead = passed + failed;
    }

    private static void endSentence() {
        if (!sentence.isEmpty() && passed + failed == passedAhead) {
            failed++;
            System.out.println("nothing was looked at for the sentence " + sentence);
        }
        sentence = "";
    }

    static void due(String what, Object got, Object want) {
        if (want.equals(got)) {
            passed++;
        } else {
            failed++;
            System.out.println(what + " answered " + got + ", due is " + want
                    + (sentence.isEmpty() ? "" : ", by " + sentence));
        }
    }

    static void refuses(String what, Class<? extends RuntimeException> kind, Call call) {
        due(what, answer(call), kind.getSimpleName());
    }

    /** What a call answers, or the name of what it throws. */
    static Object answer(Call call) {
        try {
            return call.run();
        } catch (RuntimeException e) {
            return e.getClass().getSimpleName();
        }
    }

    /** Runs each test of a class, so that none is left out and a fault in one hides no other. */
    static void runAll(Class<?> tests) {
        Method[] methods = tests.getDeclaredMethods();
        Arrays.sort(methods, Comparator.comparing(Method::getName));
        for (Method method : methods) {
            boolean isTest = !method.isSynthetic() && !Modifier.isPrivate(method.getModifiers())
                    && method.getParameterCount() == 0 && method.getReturnType() == void.class;
            if (isTest) {
                runOne(method);
            }
        }
        end(tests.getName());
    }

    private static void runOne(Method test) {
        int before = passed + failed;
        try {
            test.invoke(null);
        } catch (InvocationTargetException e) {
            failed++;
            System.out.println(test.getName() + " broke off with " + e.getCause()
                    + (sentence.isEmpty() ? "" : ", at " + sentence));
        } catch (IllegalAccessException e) {
            throw new IllegalStateException(e);
        }
        endSentence();
        if (passed + failed == before) {
            failed++;
            System.out.println(test.getName() + " looked at nothing");
        }
    }

    static void end(String name) {
        System.out.println(name + ": " + passed + " answers as due, " + failed + " not as due");
        if (failed > 0 || passed == 0) {
            System.exit(1);
        }
    }

    /** Towers of one height on these cells, in this order, as one line. */
    static ChappeLine lineOn(int height, int... cells) {
        ChappeLine chappe = new ChappeLine();
        addLine(chappe, height, cells);
        return chappe;
    }

    static int addLine(ChappeLine chappe, int height, int... cells) {
        int line = chappe.line();
        for (int cell : cells) {
            chappe.extend(line, chappe.tower(cell, height));
        }
        return line;
    }

    static void type(ChappeLine chappe, int... signals) {
        for (int signal : signals) {
            chappe.type(signal);
        }
    }

    static int send(ChappeLine chappe, int line, int rank, int... signals) {
        type(chappe, signals);
        return chappe.put(line, rank);
    }

    static int passUntil(ChappeLine chappe, int minute) {
        int delivered = 0;
        int minutes = minute - chappe.minute();
        for (int left = minutes; left > 0; left -= 300) {
            delivered += chappe.pass(Math.min(300, left));
        }
        return delivered;
    }

    /** Lets minutes go by, one by one, as long as something holds; tells how many. */
    static int passWhile(ChappeLine chappe, Condition condition) {
        for (int minutes = 0; minutes < 200; minutes++) {
            if (!condition.holds()) {
                return minutes;
            }
            chappe.pass(1);
        }
        throw new IllegalStateException("what was waited for did not come");
    }

    /** One row of a tower's log: 'r', 's' or 'm' of all signals, parted by blanks. */
    static String log(ChappeLine chappe, int tower, char what) {
        StringBuilder row = new StringBuilder();
        int size = chappe.logged(tower);
        for (int i = 0; i < size; i++) {
            row.append(i == 0 ? "" : " ").append(chappe.inLog(tower, i, what));
        }
        return row.toString();
    }

    /** What came of a message, parted by blanks. */
    static String text(ChappeLine chappe, int message) {
        StringBuilder row = new StringBuilder();
        int size = chappe.came(message);
        for (int i = 0; i < size; i++) {
            row.append(i == 0 ? "" : " ").append(chappe.signalAt(message, i));
        }
        return row.toString();
    }

    /** The line of a plan, parted by blanks. */
    static String planned(ChappeLine chappe, int size) {
        StringBuilder row = new StringBuilder();
        for (int i = 0; i < size; i++) {
            row.append(i == 0 ? "" : " ").append(chappe.planned(i));
        }
        return row.toString();
    }

    /** Numbers that are out of a range: the next ones, and those at the ends of all. */
    static int[] outside(int least, int most) {
        return new int[] {least - 1, most + 1, Integer.MIN_VALUE, Integer.MAX_VALUE};
    }
}
