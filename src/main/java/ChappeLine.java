import java.util.NoSuchElementException;

/** A realm's telegraph of arms on towers; README.md tells how it is used. */
public final class ChappeLine {
    private static final int CELLS = 24;
    private static final int MAX_GROUND = 50;
    private static final int MAX_FOG = 9;
    private static final int CLEAR_FOG = 4;
    private static final int FARTHEST = 8;
    private static final int TOWERS = 12;
    private static final int MAX_HEIGHT = 30;
    private static final int LINES = 4;
    private static final int MESSAGES = 20;
    private static final int TEXT_SIZE = 12;
    private static final int MAX_RANK = 3;
    private static final int MAX_DOZE = 9;
    private static final int BOOKS = 3;
    private static final int MAX_DAY = 99;
    private static final int MAX_WORD = 9999;
    private static final int MAX_PASS = 300;
    private static final int DAY = 1440;
    private static final int COURIER_MINUTES = 30;
    private static final int COURIER_COST = 50;

    private static final int TEXT_SIGNALS = 60;
    private static final int GO_ON = 60;
    private static final int BEGIN = 61;
    private static final int SUSPEND = 62;
    private static final int END = 63;

    // Each of 20 messages has at most 12 signals, a begin and an end, and each
    // suspend (with its go on) needs a message put in after the broken one.
    private static final int LOG_SIZE = MESSAGES * (TEXT_SIZE + 4);
    private static final int NONE = -1;

    private static final char WAITING = 'w';
    private static final char BROKEN_OFF = 'b';
    private static final char BEING_PUT = 'p';
    private static final char WHOLLY_PUT = 'l';
    private static final char WITH_COURIER = 'c';
    private static final char DELIVERED = 'd';

    private final Land land = new Land();
    private final Planner planner = new Planner();
    private final Replay replay = new Replay();
    private final Tower[] towers = new Tower[TOWERS];
    private int towerCount;
    private final Line[] lines = new Line[LINES];
    private int lineCount;
    private final Message[] messages = new Message[MESSAGES];
    private int messageCount;
    private final Book[] books = new Book[BOOKS];
    private int bookCount;
    private final int[] draft = new int[TEXT_SIZE];
    private int draftSize;
    private int minute;

    public ChappeLine() {
    }

    // ---- land, towers and lines

    public int setGround(int cell, int height) throws IndexOutOfBoundsException, IllegalArgumentException {
        checkCell(cell);
        checkRange(height, 0, MAX_GROUND);
        return land.changeGround(cell, height);
    }

    public int setFog(int cell, int fog) throws IndexOutOfBoundsException, IllegalArgumentException {
        checkCell(cell);
        checkRange(fog, 0, MAX_FOG);
        return land.changeFog(cell, fog);
    }

    public int tower(int cell, int height) throws IndexOutOfBoundsException, IllegalArgumentException,
            UnsupportedOperationException, IllegalStateException {
        checkCell(cell);
        checkRange(height, 1, MAX_HEIGHT);
        if (isBuiltOn(cell)) {
            throw new UnsupportedOperationException("there is a tower on this cell");
        }
        if (towerCount >= towers.length) {
            throw new IllegalStateException("there are 12 towers");
        }
        towers[towerCount] = new Tower(towerCount, cell, height);
        towerCount++;
        return towerCount - 1;
    }

    public boolean breakDown(int tower, boolean isBroken) throws IndexOutOfBoundsException {
        Tower broken = knownTower(tower);
        boolean before = broken.isBroken;
        broken.isBroken = isBroken;
        return before;
    }

    public int line() throws IllegalStateException {
        if (lineCount >= lines.length) {
            throw new IllegalStateException("there are 4 lines");
        }
        lines[lineCount] = new Line();
        lineCount++;
        return lineCount - 1;
    }

    public int extend(int line, int tower) throws IndexOutOfBoundsException, UnsupportedOperationException,
            IllegalStateException {
        Line extended = knownLine(line);
        Tower added = knownTower(tower);
        if (added.isInLine) {
            throw new UnsupportedOperationException("the tower is in a line");
        }
        if (extended.messageCount > 0) {
            throw new IllegalStateException("a message was put in for the line");
        }
        extended.append(added);
        return extended.length;
    }

    public boolean sees(int one, int other, boolean ground) throws IndexOutOfBoundsException,
            IllegalArgumentException {
        Tower near = knownTower(one);
        Tower far = knownTower(other);
        if (one == other) {
            throw new IllegalArgumentException("they are the same");
        }
        return ground ? land.isOpen(near.cell, near.height, far.cell, far.height) : land.isInSight(near, far);
    }

    public boolean isBlind(int line) throws IndexOutOfBoundsException {
        return knownLine(line).hasBlindPair(land);
    }

    // ---- messages, men and books

    public int type(int signal) throws IllegalArgumentException, IllegalStateException {
        checkRange(signal, 0, TEXT_SIGNALS - 1);
        if (draftSize >= draft.length) {
            throw new IllegalStateException("the text has 12 signals");
        }
        draft[draftSize] = signal;
        draftSize++;
        return draftSize;
    }

    public int put(int line, int rank) throws IndexOutOfBoundsException, IllegalArgumentException,
            UnsupportedOperationException, IllegalStateException {
        Line chosen = knownLine(line);
        checkRange(rank, 0, MAX_RANK);
        if (draftSize == 0 || chosen.length < 2) {
            throw new UnsupportedOperationException("the text is empty, or the line is too short");
        }
        if (messageCount >= messages.length) {
            throw new IllegalStateException("there are 20 messages");
        }
        Message message = new Message(messageCount, chosen, rank, minute);
        message.write(draft, draftSize);
        messages[messageCount] = message;
        messageCount++;
        chosen.accept(message);
        draftSize = 0;
        return message.number;
    }

    public int courier(int message) throws IndexOutOfBoundsException, UnsupportedOperationException,
            IllegalStateException {
        Message given = knownMessage(message);
        if (given.state != WAITING) {
            throw new UnsupportedOperationException("it does not wait, or was begun");
        }
        if (!given.line.hasBlindPair(land)) {
            throw new IllegalStateException("the line is not blind");
        }
        given.giveToCourier(minute + COURIER_MINUTES * given.line.span());
        return given.deliveryMinute;
    }

    public int doze(int tower, int doze) throws IndexOutOfBoundsException, IllegalArgumentException {
        Tower dozing = knownTower(tower);
        checkRange(doze, 0, MAX_DOZE);
        int before = dozing.doze;
        dozing.doze = doze;
        return before;
    }

    public boolean bribe(int tower, int read, int set) throws IndexOutOfBoundsException,
            IllegalArgumentException {
        Tower bribed = knownTower(tower);
        checkRange(read, 0, TEXT_SIGNALS - 1);
        checkRange(set, 0, TEXT_SIGNALS - 1);
        boolean before = bribed.bribeRead != NONE;
        bribed.bribeRead = read;
        bribed.bribeSet = set;
        return before;
    }

    public int book(int day) throws IllegalArgumentException, IllegalStateException {
        checkRange(day, 0, MAX_DAY);
        if (bookCount >= books.length) {
            throw new IllegalStateException("there are 3 books");
        }
        books[bookCount] = new Book(day);
        bookCount++;
        return bookCount - 1;
    }

    public int setWord(int book, int signal, int word) throws IndexOutOfBoundsException,
            IllegalArgumentException {
        Book changed = knownBook(book);
        checkRange(signal, 0, TEXT_SIGNALS - 1);
        checkRange(word, 0, MAX_WORD);
        return changed.changeWord(signal, word);
    }

    // ---- time

    public int pass(int minutes) throws IllegalArgumentException {
        checkRange(minutes, 1, MAX_PASS);
        int delivered = 0;
        for (int i = 0; i < minutes; i++) {
            if (minute > 0 && minute % DAY == 0) {
                wakeMen();
            }
            delivered += walkLines();
            delivered += arriveCouriers();
            minute++;
        }
        return delivered;
    }

    public int minute() {
        return minute;
    }

    public int shows(int tower) throws IndexOutOfBoundsException {
        return knownTower(tower).shown;
    }

    public int logged(int tower) throws IndexOutOfBoundsException {
        return knownTower(tower).log.size;
    }

    public int inLog(int tower, int index, char what) throws IndexOutOfBoundsException,
            IllegalArgumentException {
        Log log = knownTower(tower).log;
        if (!isWithin(index, 0, log.size - 1)) {
            throw new IndexOutOfBoundsException("no such signal in the log");
        }
        if (what == 'r') {
            return log.readAt(index);
        }
        if (what == 's') {
            return log.setAt(index);
        }
        if (what == 'm') {
            return log.minuteAt(index);
        }
        throw new IllegalArgumentException("there is no such thing in a log");
    }

    // ---- what became of messages

    public char state(int message) throws IndexOutOfBoundsException {
        return knownMessage(message).state;
    }

    public int came(int message) throws IndexOutOfBoundsException {
        return knownMessage(message).arrivedSize;
    }

    public int signalAt(int message, int index) throws IndexOutOfBoundsException {
        return arrivedSignal(knownMessage(message), index);
    }

    public int meaning(int message, int index) throws IndexOutOfBoundsException, NoSuchElementException {
        Message asked = knownMessage(message);
        int signal = arrivedSignal(asked, index);
        Book book = bookOn(asked.putInMinute / DAY);
        if (book == null) {
            throw new NoSuchElementException("the message has no book");
        }
        int word = book.wordOf(signal);
        if (word == NONE) {
            throw new NoSuchElementException("the book has no word for the signal");
        }
        return word;
    }

    public int deliveredAt(int message) throws IndexOutOfBoundsException, NoSuchElementException {
        return deliveredMessage(message).deliveryMinute;
    }

    public boolean isRight(int message) throws IndexOutOfBoundsException, NoSuchElementException {
        return deliveredMessage(message).arrivedAsPut();
    }

    public int blame(int message) throws IndexOutOfBoundsException, NoSuchElementException {
        Message asked = knownMessage(message);
        Tower blamed = asked.line.firstChangerOf(asked);
        if (blamed == null) {
            throw new NoSuchElementException("no tower is to blame");
        }
        return blamed.number;
    }

    public int bill(int message) throws IndexOutOfBoundsException {
        return knownMessage(message).cost();
    }

    // ---- planning and figures

    public int plan(int from, int to, int height) throws IndexOutOfBoundsException,
            IllegalArgumentException, NoSuchElementException {
        checkCell(from);
        checkCell(to);
        checkRange(height, 1, MAX_HEIGHT);
        if (from == to) {
            throw new IllegalArgumentException("both cells are the same");
        }
        if (!planner.reaches(land, from, to, height)) {
            throw new NoSuchElementException("there is no such line");
        }
        planner.choose(land, from, height);
        return planner.size;
    }

    public int planned(int index) throws IndexOutOfBoundsException {
        if (!isWithin(index, 0, planner.size - 1)) {
            throw new IndexOutOfBoundsException("no such tower in the plan");
        }
        return planner.cellAt(index);
    }

    public long signals() {
        long sum = 0;
        for (int i = 0; i < towerCount; i++) {
            Tower tower = towerAt(i);
            if (tower != null) {
                sum += tower.log.size;
            }
        }
        return sum;
    }

    public float rightShare() throws ArithmeticException {
        int delivered = deliveredCount();
        if (delivered == 0) {
            throw new ArithmeticException("no message was delivered");
        }
        int right = 0;
        for (int i = 0; i < messageCount; i++) {
            Message message = messageAt(i);
            if (message != null && message.state == DELIVERED && message.arrivedAsPut()) {
                right++;
            }
        }
        return (float) right / (float) delivered;
    }

    public double meanMinutes() throws ArithmeticException {
        int delivered = deliveredCount();
        if (delivered == 0) {
            throw new ArithmeticException("no message was delivered");
        }
        long sum = 0;
        for (int i = 0; i < messageCount; i++) {
            Message message = messageAt(i);
            if (message != null && message.state == DELIVERED) {
                sum += message.deliveryMinute - message.putInMinute;
            }
        }
        return (double) sum / (double) delivered;
    }

    public boolean isConsistent() {
        for (int i = 0; i < lineCount; i++) {
            Line line = lineAt(i);
            if (line != null && !(line.goesOnAlike() && replay.agreesWith(line))) {
                return false;
            }
        }
        return true;
    }

    // ---- looking things up

    private static boolean isWithin(int number, int least, int greatest) {
        return number >= least && number <= greatest;
    }

    private static void checkCell(int cell) {
        if (!isWithin(cell, 0, CELLS - 1)) {
            throw new IndexOutOfBoundsException("no such cell");
        }
    }

    private static void checkRange(int number, int least, int greatest) {
        if (!isWithin(number, least, greatest)) {
            throw new IllegalArgumentException("a number is out of range");
        }
    }

    private Tower towerAt(int number) {
        return isWithin(number, 0, towerCount - 1) && number < towers.length ? towers[number] : null;
    }

    private Line lineAt(int number) {
        return isWithin(number, 0, lineCount - 1) && number < lines.length ? lines[number] : null;
    }

    private Message messageAt(int number) {
        return isWithin(number, 0, messageCount - 1) && number < messages.length ? messages[number] : null;
    }

    private Book bookAt(int number) {
        return isWithin(number, 0, bookCount - 1) && number < books.length ? books[number] : null;
    }

    private Tower knownTower(int number) {
        Tower tower = towerAt(number);
        if (tower == null) {
            throw new IndexOutOfBoundsException("no such tower");
        }
        return tower;
    }

    private Line knownLine(int number) {
        Line line = lineAt(number);
        if (line == null) {
            throw new IndexOutOfBoundsException("no such line");
        }
        return line;
    }

    private Message knownMessage(int number) {
        Message message = messageAt(number);
        if (message == null) {
            throw new IndexOutOfBoundsException("no such message");
        }
        return message;
    }

    private Book knownBook(int number) {
        Book book = bookAt(number);
        if (book == null) {
            throw new IndexOutOfBoundsException("no such book");
        }
        return book;
    }

    private Message deliveredMessage(int number) {
        Message message = knownMessage(number);
        if (message.state != DELIVERED) {
            throw new NoSuchElementException("the message was not delivered yet");
        }
        return message;
    }

    private static int arrivedSignal(Message message, int index) {
        if (!isWithin(index, 0, message.arrivedSize - 1)) {
            throw new IndexOutOfBoundsException("no such signal was delivered");
        }
        return message.arrivedAt(index);
    }

    private boolean isBuiltOn(int cell) {
        for (int i = 0; i < towerCount; i++) {
            Tower tower = towerAt(i);
            if (tower != null && tower.cell == cell) {
                return true;
            }
        }
        return false;
    }

    private Book bookOn(int day) {
        Book latest = null;
        for (int i = 0; i < bookCount; i++) {
            Book book = bookAt(i);
            if (book != null && book.day <= day && (latest == null || book.day >= latest.day)) {
                latest = book;
            }
        }
        return latest;
    }

    private int deliveredCount() {
        int delivered = 0;
        for (int i = 0; i < messageCount; i++) {
            Message message = messageAt(i);
            if (message != null && message.state == DELIVERED) {
                delivered++;
            }
        }
        return delivered;
    }

    // ---- one minute

    private void wakeMen() {
        for (int i = 0; i < towerCount; i++) {
            Tower tower = towerAt(i);
            if (tower != null && tower.doze > 0) {
                tower.doze--;
            }
        }
    }

    private int walkLines() {
        int delivered = 0;
        for (int i = 0; i < lineCount; i++) {
            Line line = lineAt(i);
            if (line != null) {
                delivered += line.walk(land, minute);
            }
        }
        return delivered;
    }

    private int arriveCouriers() {
        int delivered = 0;
        for (int i = 0; i < messageCount; i++) {
            Message message = messageAt(i);
            if (message != null && message.state == WITH_COURIER && message.deliveryMinute <= minute) {
                message.arriveByCourier();
                delivered++;
            }
        }
        return delivered;
    }

    /** The row of cells, and who can see over it. */
    private static final class Land {
        private final int[] grounds = new int[CELLS];
        private final int[] fogs = new int[CELLS];

        int changeGround(int cell, int height) {
            int before = groundAt(cell);
            if (isWithin(cell, 0, CELLS - 1)) {
                grounds[cell] = height;
            }
            return before;
        }

        int changeFog(int cell, int fog) {
            int before = fogAt(cell);
            if (isWithin(cell, 0, CELLS - 1)) {
                fogs[cell] = fog;
            }
            return before;
        }

        int groundAt(int cell) {
            return cell >= 0 && cell < CELLS ? grounds[cell] : 0;
        }

        int fogAt(int cell) {
            return cell >= 0 && cell < CELLS ? fogs[cell] : 0;
        }

        boolean isInSight(Tower one, Tower other) {
            return !one.isBroken && !other.isBroken && isClear(one.cell, other.cell)
                    && isOpen(one.cell, one.height, other.cell, other.height);
        }

        boolean isOpen(int one, int oneHeight, int other, int otherHeight) {
            int width = Math.abs(other - one);
            if (width > FARTHEST) {
                return false;
            }
            int oneEye = groundAt(one) + oneHeight;
            int otherEye = groundAt(other) + otherHeight;
            int last = Math.max(one, other) - 1;
            for (int cell = Math.min(one, other) + 1; cell <= last; cell++) {
                // Both sides times the width, so that the comparison is exact.
                int sight = oneEye * Math.abs(other - cell) + otherEye * Math.abs(cell - one);
                if (groundAt(cell) * width >= sight) {
                    return false;
                }
            }
            return true;
        }

        private boolean isClear(int one, int other) {
            int last = Math.max(one, other);
            for (int cell = Math.min(one, other); cell <= last; cell++) {
                if (fogAt(cell) > CLEAR_FOG) {
                    return false;
                }
            }
            return true;
        }
    }

    /** What a tower read and set, in its order. */
    private static final class Log {
        private final int[] reads = new int[LOG_SIZE];
        private final int[] sets = new int[LOG_SIZE];
        private final int[] minutes = new int[LOG_SIZE];
        int size;

        boolean isFull() {
            return size >= LOG_SIZE;
        }

        void add(int read, int set, int minute) {
            if (isWithin(size, 0, LOG_SIZE - 1)) {
                reads[size] = read;
                sets[size] = set;
                minutes[size] = minute;
                size++;
            }
        }

        int readAt(int index) {
            return isWithin(index, 0, LOG_SIZE - 1) ? reads[index] : NONE;
        }

        /** A tower counts as having set 0 ahead of its first signal. */
        int setAt(int index) {
            return isWithin(index, 0, LOG_SIZE - 1) ? sets[index] : 0;
        }

        int minuteAt(int index) {
            return isWithin(index, 0, LOG_SIZE - 1) ? minutes[index] : NONE;
        }

        int stepsOf(int index) {
            return stepsBetween(setAt(index - 1), setAt(index));
        }

        static int stepsBetween(int before, int after) {
            return Math.max(1, Integer.bitCount(before ^ after));
        }
    }

    /** A tower, its man, and what its arms do. */
    private static final class Tower {
        final int number;
        final int cell;
        final int height;
        final Log log = new Log();
        boolean isInLine;
        boolean isBroken;
        int doze;
        int bribeRead = NONE;
        int bribeSet = NONE;
        int setLast;
        int stepsToGo;
        int shown = NONE;
        boolean isShownTaken;

        Tower(int number, int cell, int height) {
            this.number = number;
            this.cell = cell;
            this.height = height;
        }

        boolean isSetting() {
            return stepsToGo > 0;
        }

        boolean isReady() {
            return !isSetting() && (shown == NONE || isShownTaken);
        }

        boolean offersSignal() {
            return shown != NONE && !isShownTaken;
        }

        void moveArms() {
            stepsToGo--;
            if (stepsToGo == 0) {
                shown = setLast;
                isShownTaken = false;
            }
        }

        void handle(int signal, int minute) {
            int set = signalSetFor(signal);
            log.add(signal, set, minute);
            stepsToGo = Log.stepsBetween(setLast, set);
            setLast = set;
            shown = NONE;
        }

        private int signalSetFor(int signal) {
            if (signal >= TEXT_SIGNALS) {
                return signal;
            }
            if (signal == bribeRead) {
                bribeRead = NONE;
                return bribeSet;
            }
            int ahead = log.size % 10;
            return doze > ahead && ahead % 2 == 1 ? signal ^ 1 : signal;
        }
    }

    /** A row of towers, the messages put in for it, and what its last tower delivers. */
    private static final class Line {
        private final Tower[] row = new Tower[TOWERS];
        int length;
        private final Message[] messages = new Message[MESSAGES];
        int messageCount;
        private Message putting;
        private final Message[] begun = new Message[MESSAGES];
        private int begunCount;
        private final Message[] owners = new Message[LOG_SIZE];
        private final Desk desk = new Desk();
        int deliveredSignals;

        Tower towerIn(int place) {
            return isWithin(place, 0, length - 1) && place < TOWERS ? row[place] : null;
        }

        Message messageIn(int index) {
            return isWithin(index, 0, messageCount - 1) && index < MESSAGES ? messages[index] : null;
        }

        Message begunIn(int index) {
            return isWithin(index, 0, begunCount - 1) && index < MESSAGES ? begun[index] : null;
        }

        void append(Tower tower) {
            if (isWithin(length, 0, TOWERS - 1)) {
                row[length] = tower;
                length++;
                tower.isInLine = true;
            }
        }

        void accept(Message message) {
            if (isWithin(messageCount, 0, MESSAGES - 1)) {
                messages[messageCount] = message;
                messageCount++;
            }
        }

        boolean hasBlindPair(Land land) {
            for (int place = 1; place < length; place++) {
                Tower ahead = towerIn(place - 1);
                Tower behind = towerIn(place);
                if (ahead != null && behind != null && !land.isInSight(ahead, behind)) {
                    return true;
                }
            }
            return false;
        }

        /** How many cells the first and the last tower are apart. */
        int span() {
            Tower first = towerIn(0);
            Tower last = towerIn(length - 1);
            return first == null || last == null ? 0 : Math.abs(last.cell - first.cell);
        }

        /** Answers how many messages were delivered. */
        int walk(Land land, int minute) {
            int delivered = 0;
            for (int place = length - 1; place >= 0; place--) {
                Tower tower = towerIn(place);
                if (tower == null || tower.isBroken) {
                    continue;
                }
                if (tower.isSetting()) {
                    tower.moveArms();
                    if (place == length - 1 && tower.offersSignal()) {
                        delivered += deliver(tower, minute);
                    }
                } else if (tower.isReady() && !tower.log.isFull()) {
                    if (place == 0) {
                        putNext(tower, minute);
                    } else {
                        takeFrom(towerIn(place - 1), tower, land, minute);
                    }
                }
            }
            return delivered;
        }

        private void takeFrom(Tower ahead, Tower behind, Land land, int minute) {
            if (ahead != null && ahead.offersSignal() && land.isInSight(ahead, behind)) {
                ahead.isShownTaken = true;
                behind.handle(ahead.shown, minute);
            }
        }

        private void putNext(Tower first, int minute) {
            Message next = nextWaiting();
            if (putting == null && next == null) {
                return;
            }
            int signal;
            if (putting == null) {
                putting = next;
                signal = startOf(next);
                own(first, next);
            } else if (next != null && next.rank > putting.rank) {
                own(first, putting);
                signal = SUSPEND;
                putting.state = BROKEN_OFF;
                putting = null;
            } else {
                own(first, putting);
                signal = putting.takeNextSignal();
                if (signal == END) {
                    putting.state = WHOLLY_PUT;
                    putting = null;
                }
            }
            first.handle(signal, minute);
        }

        private int startOf(Message message) {
            boolean isNew = message.state == WAITING;
            message.state = BEING_PUT;
            if (isNew && isWithin(begunCount, 0, MESSAGES - 1)) {
                begun[begunCount] = message;
                begunCount++;
            }
            return isNew ? BEGIN : GO_ON;
        }

        /** The signal that is put next stands at the same place in all logs of the line. */
        private void own(Tower first, Message message) {
            int place = first.log.size;
            if (isWithin(place, 0, LOG_SIZE - 1)) {
                owners[place] = message;
            }
        }

        private Message nextWaiting() {
            Message best = null;
            for (int i = 0; i < messageCount; i++) {
                Message message = messageIn(i);
                if (message != null && message.isWaiting() && (best == null || message.rank > best.rank)) {
                    best = message;
                }
            }
            return best;
        }

        private int deliver(Tower last, int minute) {
            last.isShownTaken = true;
            deliveredSignals++;
            int signal = last.shown;
            Message message = desk.follow(signal, this);
            if (message == null) {
                return 0;
            }
            if (signal < TEXT_SIGNALS) {
                message.arrive(signal);
            }
            if (signal != END) {
                return 0;
            }
            message.close(minute);
            return 1;
        }

        Tower firstChangerOf(Message message) {
            for (int place = 0; place < length; place++) {
                Tower tower = towerIn(place);
                if (tower != null && isChangedBy(tower, message)) {
                    return tower;
                }
            }
            return null;
        }

        private boolean isChangedBy(Tower tower, Message message) {
            Log log = tower.log;
            for (int i = 0; i < log.size && i < LOG_SIZE; i++) {
                if (owners[i] == message && log.readAt(i) != log.setAt(i)) {
                    return true;
                }
            }
            return false;
        }

        boolean goesOnAlike() {
            for (int place = 1; place < length; place++) {
                Tower ahead = towerIn(place - 1);
                Tower behind = towerIn(place);
                if (ahead != null && behind != null && !follows(ahead.log, behind.log)) {
                    return false;
                }
            }
            return true;
        }

        private static boolean follows(Log ahead, Log behind) {
            if (behind.size > ahead.size) {
                return false;
            }
            for (int i = 0; i < behind.size; i++) {
                int shownIn = ahead.minuteAt(i) + ahead.stepsOf(i);
                if (behind.readAt(i) != ahead.setAt(i) || behind.minuteAt(i) <= shownIn) {
                    return false;
                }
            }
            return true;
        }
    }

    /** Tells of each delivered signal which message it is of. */
    private static final class Desk {
        private final Message[] aside = new Message[MESSAGES];
        private int asideCount;
        private int openedCount;
        private Message open;

        void clear() {
            asideCount = 0;
            openedCount = 0;
            open = null;
        }

        Message follow(int signal, Line line) {
            if (signal == BEGIN) {
                open = line.begunIn(openedCount);
                openedCount++;
            } else if (signal == GO_ON) {
                open = popAside();
            }
            Message message = open;
            if (signal == SUSPEND) {
                pushAside(open);
                open = null;
            } else if (signal == END) {
                open = null;
            }
            return message;
        }

        private void pushAside(Message message) {
            if (message != null && isWithin(asideCount, 0, MESSAGES - 1)) {
                aside[asideCount] = message;
                asideCount++;
            }
        }

        private Message popAside() {
            if (!isWithin(asideCount, 1, MESSAGES)) {
                return null;
            }
            asideCount--;
            return aside[asideCount];
        }
    }

    /** Reads the log of a line's last tower again, to compare it with what came. */
    private static final class Replay {
        private final Desk desk = new Desk();
        private final int[] counts = new int[MESSAGES];
        private final boolean[] areEnded = new boolean[MESSAGES];

        boolean agreesWith(Line line) {
            clear();
            Tower last = line.towerIn(line.length - 1);
            if (last == null) {
                return true;
            }
            if (line.deliveredSignals > last.log.size) {
                return false;
            }
            for (int i = 0; i < line.deliveredSignals; i++) {
                if (!readsAgain(last.log.setAt(i), line)) {
                    return false;
                }
            }
            return isWhole(line);
        }

        private void clear() {
            desk.clear();
            for (int i = 0; i < MESSAGES; i++) {
                counts[i] = 0;
                areEnded[i] = false;
            }
        }

        private boolean readsAgain(int signal, Line line) {
            Message message = desk.follow(signal, line);
            if (message == null || !isWithin(message.number, 0, MESSAGES - 1)) {
                return false;
            }
            int number = message.number;
            if (signal == END) {
                areEnded[number] = true;
            }
            if (signal >= TEXT_SIGNALS) {
                return true;
            }
            int place = counts[number];
            counts[number]++;
            return place < message.arrivedSize && message.arrivedAt(place) == signal;
        }

        private boolean isWhole(Line line) {
            for (int i = 0; i < line.messageCount; i++) {
                Message message = line.messageIn(i);
                if (message == null || !isWithin(message.number, 0, MESSAGES - 1)) {
                    return false;
                }
                boolean isOfLine = !message.isByCourier;
                boolean isDelivered = isOfLine && message.state == DELIVERED;
                int due = isOfLine ? message.arrivedSize : 0;
                if (counts[message.number] != due || areEnded[message.number] != isDelivered) {
                    return false;
                }
            }
            return true;
        }
    }

    /** A text on its way. Its state is told as the letters of the document. */
    private static final class Message {
        final int number;
        final Line line;
        final int rank;
        final int putInMinute;
        private final int[] text = new int[TEXT_SIZE];
        private int textSize;
        private int putSize;
        private final int[] arrived = new int[TEXT_SIZE];
        int arrivedSize;
        char state = WAITING;
        boolean isByCourier;
        int deliveryMinute;

        Message(int number, Line line, int rank, int putInMinute) {
            this.number = number;
            this.line = line;
            this.rank = rank;
            this.putInMinute = putInMinute;
        }

        void write(int[] signals, int size) {
            for (int i = 0; i < size && i < signals.length && i < TEXT_SIZE; i++) {
                text[i] = signals[i];
                textSize = i + 1;
            }
        }

        boolean isWaiting() {
            return state == WAITING || state == BROKEN_OFF;
        }

        int takeNextSignal() {
            if (putSize >= textSize || !isWithin(putSize, 0, TEXT_SIZE - 1)) {
                return END;
            }
            putSize++;
            return text[putSize - 1];
        }

        void arrive(int signal) {
            if (isWithin(arrivedSize, 0, TEXT_SIZE - 1)) {
                arrived[arrivedSize] = signal;
                arrivedSize++;
            }
        }

        void close(int minute) {
            state = DELIVERED;
            deliveryMinute = minute;
        }

        void giveToCourier(int dueMinute) {
            state = WITH_COURIER;
            isByCourier = true;
            deliveryMinute = dueMinute;
        }

        void arriveByCourier() {
            for (int i = 0; i < textSize && i < TEXT_SIZE; i++) {
                arrive(text[i]);
            }
            state = DELIVERED;
        }

        int arrivedAt(int index) {
            return isWithin(index, 0, TEXT_SIZE - 1) ? arrived[index] : NONE;
        }

        boolean arrivedAsPut() {
            if (arrivedSize != textSize) {
                return false;
            }
            for (int i = 0; i < textSize && i < TEXT_SIZE; i++) {
                if (arrived[i] != text[i]) {
                    return false;
                }
            }
            return true;
        }

        int cost() {
            if (state != DELIVERED || !arrivedAsPut()) {
                return 0;
            }
            return isByCourier ? COURIER_COST : 2 * textSize * (rank + 1);
        }
    }

    /** The words of signals from a day on. */
    private static final class Book {
        final int day;
        private final int[] words = new int[TEXT_SIGNALS];

        Book(int day) {
            this.day = day;
            for (int i = 0; i < TEXT_SIGNALS; i++) {
                words[i] = NONE;
            }
        }

        int wordOf(int signal) {
            return isWithin(signal, 0, TEXT_SIGNALS - 1) ? words[signal] : NONE;
        }

        int changeWord(int signal, int word) {
            int before = wordOf(signal);
            if (isWithin(signal, 0, TEXT_SIGNALS - 1)) {
                words[signal] = word;
            }
            return before;
        }
    }

    /** The line that was planned last, and the room for the search. */
    private static final class Planner {
        private final int[] cells = new int[CELLS];
        int size;
        private final int[] farFromEnd = new int[CELLS];
        private final int[] queue = new int[CELLS];

        int cellAt(int index) {
            return isWithin(index, 0, CELLS - 1) ? cells[index] : NONE;
        }

        private int farAt(int cell) {
            return isWithin(cell, 0, CELLS - 1) ? farFromEnd[cell] : NONE;
        }

        /** Measures from the end on, so that the choice of cells can go from the first one on. */
        boolean reaches(Land land, int from, int to, int height) {
            for (int cell = 0; cell < CELLS; cell++) {
                farFromEnd[cell] = cell == to ? 0 : NONE;
            }
            queue[0] = to;
            int queued = 1;
            for (int head = 0; head < queued && head < CELLS; head++) {
                int here = queue[head];
                for (int cell = 0; cell < CELLS; cell++) {
                    if (farFromEnd[cell] == NONE && queued < CELLS && land.isOpen(here, height, cell, height)) {
                        farFromEnd[cell] = farAt(here) + 1;
                        queue[queued] = cell;
                        queued++;
                    }
                }
            }
            return farAt(from) != NONE;
        }

        void choose(Land land, int from, int height) {
            int steps = Math.min(farAt(from), CELLS - 1);
            int here = from;
            cells[0] = from;
            for (int step = 1; step <= steps; step++) {
                here = lowestNearer(land, here, height);
                cells[step] = here;
            }
            size = steps + 1;
        }

        private int lowestNearer(Land land, int here, int height) {
            int wanted = farAt(here) - 1;
            for (int cell = 0; cell < CELLS; cell++) {
                if (farAt(cell) == wanted && land.isOpen(here, height, cell, height)) {
                    return cell;
                }
            }
            return here;
        }
    }
}
