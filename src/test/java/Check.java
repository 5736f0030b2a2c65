/** Compares answers with those that are due, and counts. */
final class Check {
    interface Call {
        Object run();
    }

    static final Class<IndexOutOfBoundsException> INDEX = IndexOutOfBoundsException.class;
    static final Class<IllegalArgumentException> ARGUMENT = IllegalArgumentException.class;
    static final Class<UnsupportedOperationException> UNSUPPORTED = UnsupportedOperationException.class;
    static final Class<IllegalStateException> STATE = IllegalStateException.class;
    static final Class<java.util.NoSuchElementException> NO_ELEMENT = java.util.NoSuchElementException.class;
    static final Class<ArithmeticException> ARITHMETIC = ArithmeticException.class;

    private static int passed = 0;
    private static int failed = 0;

    private Check() {
    }

    static void due(String what, Object got, Object want) {
        if (want.equals(got)) {
            passed++;
        } else {
            failed++;
            System.out.println(what + " answered " + got + ", due is " + want);
        }
    }

    static void refuses(String what, Class<? extends RuntimeException> kind, Call call) {
        due(what, answer(call), kind.getSimpleName());
    }

    /** What a call answers, or the name of what it throws. */
    static Object answer(Call call) {
        try {
            return call.run();
        } catch (RuntimeException e) {
            return e.getClass().getSimpleName();
        }
    }

    static void end(String name) {
        System.out.println(name + ": " + passed + " answers as due, " + failed + " not as due");
        if (failed > 0 || passed == 0) {
            System.exit(1);
        }
    }

    /** Towers of one height on these cells, in this order, as one line. */
    static ChappeLine lineOn(int height, int... cells) {
        ChappeLine chappe = new ChappeLine();
        addLine(chappe, height, cells);
        return chappe;
    }

    static int addLine(ChappeLine chappe, int height, int... cells) {
        int line = chappe.line();
        for (int cell : cells) {
            chappe.extend(line, chappe.tower(cell, height));
        }
        return line;
    }

    static int send(ChappeLine chappe, int line, int rank, int... signals) {
        for (int signal : signals) {
            chappe.type(signal);
        }
        return chappe.put(line, rank);
    }

    static int passUntil(ChappeLine chappe, int minute) {
        int delivered = 0;
        while (chappe.minute() < minute) {
            delivered += chappe.pass(Math.min(300, minute - chappe.minute()));
        }
        return delivered;
    }

    /** One row of a tower's log: 'r', 's' or 'm' of all signals, parted by blanks. */
    static String log(ChappeLine chappe, int tower, char what) {
        StringBuilder row = new StringBuilder();
        for (int i = 0; i < chappe.logged(tower); i++) {
            row.append(i == 0 ? "" : " ").append(chappe.inLog(tower, i, what));
        }
        return row.toString();
    }
}
