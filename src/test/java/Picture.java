/** All that calls can tell of an object, for comparing two; taken at the end, as it uses up what can only be set. */
final class Picture {
    private final ChappeLine chappe;
    private final StringBuilder rows = new StringBuilder();

    Picture(ChappeLine chappe) {
        this.chappe = chappe;
        addFigures();
        for (int tower = 0; tower < 13; tower++) {
            addTower(tower);
        }
        for (int line = 0; line < 5; line++) {
            int asked = line;
            add("line", () -> chappe.isBlind(asked));
        }
        for (int message = 0; message < 21; message++) {
            addMessage(message);
        }
        addBooks();
        add("text", () -> chappe.type(0));
        addLand();
    }

    @Override
    public String toString() {
        return rows.toString();
    }

    private void add(String what, Check.Call call) {
        rows.append(what).append(' ').append(Check.answer(call)).append('\n');
    }

    private boolean isThere(Check.Call call) {
        return !(Check.answer(call) instanceof String);
    }

    private void addLand() {
        for (int cell = 0; cell < 24; cell++) {
            int asked = cell;
            add("ground", () -> chappe.setGround(asked, 0));
            add("fog", () -> chappe.setFog(asked, 0));
        }
        for (int index = 0; index < 4; index++) {
            int asked = index;
            add("planned", () -> chappe.planned(asked));
        }
    }

    private void addFigures() {
        add("minute", chappe::minute);
        add("signals", chappe::signals);
        add("share", chappe::rightShare);
        add("mean", chappe::meanMinutes);
        add("consistent", chappe::isConsistent);
    }

    private void addTower(int tower) {
        add("shows", () -> chappe.shows(tower));
        if (!isThere(() -> chappe.logged(tower))) {
            return;
        }
        int size = chappe.logged(tower);
        rows.append("logged ").append(size).append('\n');
        for (int index = Math.max(0, size - 2); index < size; index++) {
            int asked = index;
            for (char what : new char[] {'r', 's', 'm'}) {
                add("log", () -> chappe.inLog(tower, asked, what));
            }
        }
        boolean isBroken = chappe.breakDown(tower, true);
        chappe.breakDown(tower, isBroken);
        rows.append("broken ").append(isBroken).append('\n');
        add("doze", () -> chappe.doze(tower, 0));
        add("bribe", () -> chappe.bribe(tower, 0, 0));
    }

    private void addMessage(int message) {
        add("state", () -> chappe.state(message));
        if (!isThere(() -> chappe.came(message))) {
            return;
        }
        int size = chappe.came(message);
        rows.append("came ").append(size).append('\n');
        for (int index = 0; index < size && index < 2; index++) {
            int asked = index;
            add("signal", () -> chappe.signalAt(message, asked));
        }
        add("meaning", () -> chappe.meaning(message, 0));
        add("delivered", () -> chappe.deliveredAt(message));
        add("right", () -> chappe.isRight(message));
        add("blame", () -> chappe.blame(message));
        add("bill", () -> chappe.bill(message));
    }

    private void addBooks() {
        for (int book = 0; book < 4; book++) {
            int asked = book;
            add("word", () -> chappe.setWord(asked, 7, 0));
            add("other word", () -> chappe.setWord(asked, 0, 0));
        }
    }
}
