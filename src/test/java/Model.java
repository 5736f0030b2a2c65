import java.util.ArrayDeque;
import java.util.ArrayList;
import java.util.Deque;
import java.util.HashMap;
import java.util.List;
import java.util.Map;
import java.util.NoSuchElementException;

/**
 * The document once more, written in another way: each signal is an object that
 * knows its message and goes from tower to tower, nothing is read from logs.
 */
final class Model {
    static final class Sign {
        Letter letter;
        int put;
        int now;
    }

    static final class Entry {
        Sign sign;
        int read;
        int set;
        int minute;
    }

    static final class Post {
        int number;
        int cell;
        int height;
        boolean broken;
        int doze;
        int[] bribe;
        Row row;
        List<Entry> log = new ArrayList<>();
        int readyIn;
        boolean up;
        boolean free = true;

        Entry last() {
            return log.isEmpty() ? null : log.get(log.size() - 1);
        }
    }

    static final class Letter {
        int number;
        Row row;
        int rank;
        int[] text;
        int next;
        int putIn;
        char state = 'w';
        int due = -1;
        boolean rode;
        List<Integer> came = new ArrayList<>();
    }

    static final class Row {
        List<Post> posts = new ArrayList<>();
        Letter current;
    }

    static final class Words {
        int day;
        Map<Integer, Integer> words = new HashMap<>();
    }

    final int[] ground = new int[24];
    final int[] fog = new int[24];
    final List<Post> posts = new ArrayList<>();
    final List<Row> rows = new ArrayList<>();
    final List<Letter> letters = new ArrayList<>();
    final List<Words> books = new ArrayList<>();
    final List<Integer> draft = new ArrayList<>();
    List<Integer> plan = new ArrayList<>();
    int minute = 0;

    private static void index(boolean fine) {
        if (!fine) {
            throw new IndexOutOfBoundsException();
        }
    }

    private static void argument(boolean fine) {
        if (!fine) {
            throw new IllegalArgumentException();
        }
    }

    private static void unsupported(boolean fine) {
        if (!fine) {
            throw new UnsupportedOperationException();
        }
    }

    private static void state(boolean fine) {
        if (!fine) {
            throw new IllegalStateException();
        }
    }

    private static void element(boolean fine) {
        if (!fine) {
            throw new NoSuchElementException();
        }
    }

    private static <T> T of(List<T> all, int number) {
        index(number >= 0 && number < all.size());
        return all.get(number);
    }

    private static boolean in(int number, int least, int most) {
        return least <= number && number <= most;
    }

    int setGround(int cell, int height) {
        index(in(cell, 0, 23));
        argument(in(height, 0, 50));
        int before = ground[cell];
        ground[cell] = height;
        return before;
    }

    int setFog(int cell, int thickness) {
        index(in(cell, 0, 23));
        argument(in(thickness, 0, 9));
        int before = fog[cell];
        fog[cell] = thickness;
        return before;
    }

    int tower(int cell, int height) {
        index(in(cell, 0, 23));
        argument(in(height, 1, 30));
        unsupported(posts.stream().noneMatch(p -> p.cell == cell));
        state(posts.size() < 12);
        Post post = new Post();
        post.number = posts.size();
        post.cell = cell;
        post.height = height;
        posts.add(post);
        return post.number;
    }

    boolean breakDown(int tower, boolean broken) {
        Post post = of(posts, tower);
        boolean before = post.broken;
        post.broken = broken;
        return before;
    }

    int line() {
        state(rows.size() < 4);
        rows.add(new Row());
        return rows.size() - 1;
    }

    int extend(int line, int tower) {
        Row row = of(rows, line);
        Post post = of(posts, tower);
        unsupported(post.row == null);
        state(letters.stream().noneMatch(l -> l.row == row));
        row.posts.add(post);
        post.row = row;
        return row.posts.size();
    }

    boolean sees(int one, int other, boolean overGround) {
        Post a = of(posts, one);
        Post b = of(posts, other);
        argument(a != b);
        return overGround ? over(a.cell, a.height, b.cell, b.height) : see(a, b);
    }

    private boolean over(int a, int aHeight, int b, int bHeight) {
        if (a > b) {
            return over(b, bHeight, a, aHeight);
        }
        if (b - a > 8) {
            return false;
        }
        int from = ground[a] + aHeight;
        int to = ground[b] + bHeight;
        for (int i = 1; i < b - a; i++) {
            // from + (to - from) * i / (b - a), as a fraction
            if (ground[a + i] * (b - a) >= from * (b - a) + (to - from) * i) {
                return false;
            }
        }
        return true;
    }

    private boolean see(Post a, Post b) {
        boolean clear = !a.broken && !b.broken && over(a.cell, a.height, b.cell, b.height);
        for (int cell = 0; cell < 24; cell++) {
            boolean between = (cell - a.cell) * (cell - b.cell) <= 0;
            clear &= !between || fog[cell] <= 4;
        }
        return clear;
    }

    boolean isBlind(int line) {
        return blind(of(rows, line));
    }

    private boolean blind(Row row) {
        for (int i = 0; i + 1 < row.posts.size(); i++) {
            if (!see(row.posts.get(i), row.posts.get(i + 1))) {
                return true;
            }
        }
        return false;
    }

    int type(int signal) {
        argument(in(signal, 0, 59));
        state(draft.size() < 12);
        draft.add(signal);
        return draft.size();
    }

    int put(int line, int rank) {
        Row row = of(rows, line);
        argument(in(rank, 0, 3));
        unsupported(!draft.isEmpty() && row.posts.size() >= 2);
        state(letters.size() < 20);
        Letter letter = new Letter();
        letter.number = letters.size();
        letter.row = row;
        letter.rank = rank;
        letter.putIn = minute;
        letter.text = draft.stream().mapToInt(Integer::intValue).toArray();
        letters.add(letter);
        draft.clear();
        return letter.number;
    }

    int courier(int message) {
        Letter letter = of(letters, message);
        unsupported(letter.state == 'w');
        state(blind(letter.row));
        List<Post> all = letter.row.posts;
        letter.state = 'c';
        letter.rode = true;
        letter.due = minute + 30 * Math.abs(all.get(0).cell - all.get(all.size() - 1).cell);
        return letter.due;
    }

    int doze(int tower, int doze) {
        Post post = of(posts, tower);
        argument(in(doze, 0, 9));
        int before = post.doze;
        post.doze = doze;
        return before;
    }

    boolean bribe(int tower, int read, int set) {
        Post post = of(posts, tower);
        argument(in(read, 0, 59) && in(set, 0, 59));
        boolean before = post.bribe != null;
        post.bribe = new int[] {read, set};
        return before;
    }

    int book(int day) {
        argument(in(day, 0, 99));
        state(books.size() < 3);
        Words book = new Words();
        book.day = day;
        books.add(book);
        return books.size() - 1;
    }

    int setWord(int book, int signal, int word) {
        Words changed = of(books, book);
        argument(in(signal, 0, 59) && in(word, 0, 9999));
        Integer before = changed.words.put(signal, word);
        return before == null ? -1 : before;
    }

    int pass(int minutes) {
        argument(in(minutes, 1, 300));
        long before = letters.stream().filter(l -> l.state == 'd').count();
        for (int i = 0; i < minutes; i++) {
            oneMinute();
            minute++;
        }
        return (int) (letters.stream().filter(l -> l.state == 'd').count() - before);
    }

    private void oneMinute() {
        if (minute != 0 && minute % 1440 == 0) {
            posts.forEach(p -> p.doze = Math.max(0, p.doze - 1));
        }
        for (Row row : rows) {
            for (int i = row.posts.size() - 1; i >= 0; i--) {
                if (!row.posts.get(i).broken) {
                    work(row, i);
                }
            }
        }
        for (Letter letter : letters) {
            if (letter.state == 'c' && letter.due == minute) {
                letter.state = 'd';
                for (int signal : letter.text) {
                    letter.came.add(signal);
                }
            }
        }
    }

    private void work(Row row, int place) {
        Post post = row.posts.get(place);
        if (post.readyIn > 0) {
            post.readyIn--;
            if (post.readyIn == 0) {
                post.up = true;
                if (place == row.posts.size() - 1) {
                    post.free = true;
                    arrive(post.last().sign);
                }
            }
        } else if (post.free && place > 0) {
            Post ahead = row.posts.get(place - 1);
            if (ahead.up && !ahead.free && see(ahead, post)) {
                ahead.free = true;
                set(post, ahead.last().sign);
            }
        } else if (post.free) {
            Sign sign = nextSign(row);
            if (sign != null) {
                set(post, sign);
            }
        }
    }

    private void set(Post post, Sign sign) {
        Entry entry = new Entry();
        entry.sign = sign;
        entry.minute = minute;
        entry.read = sign.now;
        int before = post.log.isEmpty() ? 0 : post.last().set;
        int place = post.log.size() % 10;
        if (sign.now < 60 && post.bribe != null && post.bribe[0] == sign.now) {
            sign.now = post.bribe[1];
            post.bribe = null;
        } else if (sign.now < 60 && place % 2 == 1 && post.doze > place) {
            sign.now += sign.now % 2 == 0 ? 1 : -1;
        }
        entry.set = sign.now;
        post.log.add(entry);
        int steps = 0;
        for (int bit = 1; bit < 64; bit *= 2) {
            steps += (before & bit) == (entry.set & bit) ? 0 : 1;
        }
        post.readyIn = Math.max(1, steps);
        post.up = false;
        post.free = false;
    }

    private Sign nextSign(Row row) {
        Letter best = null;
        for (Letter letter : letters) {
            if (letter.row == row && (letter.state == 'w' || letter.state == 'b')
                    && (best == null || letter.rank > best.rank)) {
                best = letter;
            }
        }
        Sign sign = new Sign();
        if (row.current == null) {
            if (best == null) {
                return null;
            }
            sign.letter = best;
            sign.put = best.state == 'w' ? 61 : 60;
            best.state = 'p';
            row.current = best;
        } else {
            sign.letter = row.current;
            if (best != null && best.rank > row.current.rank) {
                sign.put = 62;
                row.current.state = 'b';
                row.current = null;
            } else if (row.current.next < row.current.text.length) {
                sign.put = row.current.text[row.current.next++];
            } else {
                sign.put = 63;
                row.current.state = 'l';
                row.current = null;
            }
        }
        sign.now = sign.put;
        return sign;
    }

    private void arrive(Sign sign) {
        if (sign.put < 60) {
            sign.letter.came.add(sign.now);
        } else if (sign.put == 63) {
            sign.letter.state = 'd';
            sign.letter.due = minute;
        }
    }

    int minute() {
        return minute;
    }

    int shows(int tower) {
        Post post = of(posts, tower);
        return post.up ? post.last().set : -1;
    }

    int logged(int tower) {
        return of(posts, tower).log.size();
    }

    int inLog(int tower, int index, char what) {
        Entry entry = of(of(posts, tower).log, index);
        argument("rsm".indexOf(what) >= 0);
        return what == 'r' ? entry.read : what == 's' ? entry.set : entry.minute;
    }

    char state(int message) {
        return of(letters, message).state;
    }

    int came(int message) {
        return of(letters, message).came.size();
    }

    int signalAt(int message, int index) {
        return of(of(letters, message).came, index);
    }

    int meaning(int message, int index) {
        int signal = signalAt(message, index);
        Words book = null;
        for (int day = letters.get(message).putIn / 1440; day >= 0 && book == null; day--) {
            for (Words each : books) {
                book = each.day == day ? each : book;
            }
        }
        element(book != null && book.words.containsKey(signal));
        return book.words.get(signal);
    }

    int deliveredAt(int message) {
        element(of(letters, message).state == 'd');
        return letters.get(message).due;
    }

    private static boolean right(Letter letter) {
        boolean same = letter.state == 'd' && letter.came.size() == letter.text.length;
        for (int i = 0; same && i < letter.text.length; i++) {
            same = letter.came.get(i) == letter.text[i];
        }
        return same;
    }

    boolean isRight(int message) {
        element(of(letters, message).state == 'd');
        return right(letters.get(message));
    }

    int blame(int message) {
        Letter letter = of(letters, message);
        for (Post post : letter.row.posts) {
            for (Entry entry : post.log) {
                if (entry.sign.letter == letter && entry.read != entry.set) {
                    return post.number;
                }
            }
        }
        throw new NoSuchElementException();
    }

    int bill(int message) {
        Letter letter = of(letters, message);
        return !right(letter) ? 0 : letter.rode ? 50 : 2 * letter.text.length * (1 + letter.rank);
    }

    int plan(int from, int to, int height) {
        index(in(from, 0, 23) && in(to, 0, 23));
        argument(in(height, 1, 30) && from != to);
        // The first line found by breadth, lowest cells first, is the lowest of the shortest ones.
        Deque<List<Integer>> open = new ArrayDeque<>();
        boolean[] seen = new boolean[24];
        open.add(List.of(from));
        seen[from] = true;
        while (!open.isEmpty()) {
            List<Integer> path = open.poll();
            int last = path.get(path.size() - 1);
            if (last == to) {
                plan = path;
                return path.size();
            }
            for (int cell = 0; cell < 24; cell++) {
                if (!seen[cell] && over(last, height, cell, height)) {
                    seen[cell] = true;
                    List<Integer> longer = new ArrayList<>(path);
                    longer.add(cell);
                    open.add(longer);
                }
            }
        }
        throw new NoSuchElementException();
    }

    int planned(int index) {
        return of(plan, index);
    }

    long signals() {
        return posts.stream().mapToLong(p -> p.log.size()).sum();
    }

    float rightShare() {
        long all = letters.stream().filter(l -> l.state == 'd').count();
        if (all == 0) {
            throw new ArithmeticException();
        }
        return (float) letters.stream().filter(Model::right).count() / (float) all;
    }

    double meanMinutes() {
        return letters.stream().filter(l -> l.state == 'd').mapToInt(l -> l.due - l.putIn).average()
                .orElseThrow(ArithmeticException::new);
    }

    boolean isConsistent() {
        return true;
    }
}
