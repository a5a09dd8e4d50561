import java.util.ArrayDeque;
import java.util.ArrayList;
import java.util.Arrays;
import java.util.Deque;
import java.util.List;

/**
 * The whole face once more, for one object's life: shelves are Java's own arrays, refusals Java's own exceptions,
 * bodies Java's own classes; houses are asked of the Model.
 */
final class Twin {
    private static final int BAD = -1, NOT = -2, FULL = -3, STATE = -5;

    private final Model house = new Model();
    private final StringBuilder tape = new StringBuilder();
    /** The minute, the room, who is told, goodbyes, evenings done, evenings. */
    private int[] led = new int[6];
    private int[] image;
    /** Number, what, before, after. */
    private final Deque<int[]> done = new ArrayDeque<>();
    private final Deque<int[]> undone = new ArrayDeque<>();
    private final List<BodiesTest.Parting> bodies = new ArrayList<>();
    private final List<Integer> kinds = new ArrayList<>();
    private List<Integer> ran = List.of();
    /** Nothing, a body's number, or an array. */
    private final Object[] shelves = new Object[6];

    private static boolean in(int v, int least, int greatest) {
        return v >= least && v <= greatest;
    }

    private static boolean rooms(int ab) {
        return in(ab, 0, 49) && in(ab % 10, 0, 4);
    }

    private boolean isGuest(int guest) {
        return in(guest, 0, house.guests.size() - 1);
    }

    private int everybody() {
        return (1 << house.guests.size()) - 1;
    }

    // ---- guests, rooms

    public int guest(int ab, int changes) {
        return rooms(ab) && in(changes, 0, 99) ? come(ab / 10, ab % 10, changes, 2) : BAD;
    }

    private int come(int one, int other, int changes, int talk) {
        if (house.guests.size() == 10) {
            return FULL;
        }
        house.guests.add(new int[] {one, other, changes, talk, 1, 0, 11});
        return house.guests.size() - 1;
    }

    public int guests(int shelf, int i, int n) {
        if (!in(shelf, 0, 5) || !in(n, 1, 10)) {
            return BAD;
        }
        if (shelves[shelf] != null && !(shelves[shelf] instanceof byte[])) {
            return -12;
        }
        byte[] row = (byte[]) shelves[shelf];
        for (int k = 0; k < n; k++) {
            try {
                byte[] three = {row[i + 3 * k], row[i + 3 * k + 1], row[i + 3 * k + 2]};
                if (!in(three[0], 0, 4) || !in(three[1], 0, 4) || !in(three[2], 0, 9)
                    || come(three[0], three[1], 50, three[2]) == FULL) {
                    return k;
                }
            } catch (NullPointerException | ArrayIndexOutOfBoundsException e) {
                return k;
            }
        }
        return n;
    }

    public int mend(int number, int what, int v) {
        int before = of(number, what);
        int[] least = {0, 0, 0, 0, 0, 0, 1, 1};
        int[] greatest = {4, 4, 99, 9, 1, 1, 11, 9};
        if (before == BAD || !in(v, least[what], greatest[what])) {
            return BAD;
        }
        if (before != v) {
            set(number, what, v);
            done.push(new int[] {number, what, before, v});
            if (done.size() > 40) {
                done.removeLast();
            }
            undone.clear();
        }
        return before;
    }

    private void set(int number, int what, int v) {
        (what == 7 ? house.ways : house.guests.get(number))[what == 7 ? number : what] = v;
    }

    public int of(int number, int what) {
        if (what == 7) {
            return in(number, 0, 3) ? house.ways[number] : BAD;
        }
        return in(what, 0, 6) && isGuest(number) ? house.guests.get(number)[what] : BAD;
    }

    public int at(int guest, int minute) {
        return isGuest(guest) && in(minute, 0, 999) ? house.roomOf(guest, minute) : BAD;
    }

    public int in(int room, int minute) {
        return in(room, 0, 4) && in(minute, 0, 999) ? house.in(room, minute) : BAD;
    }

    public int feed(int letter) {
        if (!in(letter, 0, 255)) {
            return BAD;
        }
        return tape.length() == 120 ? FULL : tape.append((char) letter).length();
    }

    public int law() {
        String text = tape.toString();
        tape.setLength(0);
        int fault = new FaultsTest.Reader().fault(text);
        if (fault >= 0) {
            return -100 - fault;
        }
        house.law = Texts.law(text);
        return 1;
    }

    // ---- rounds

    private static boolean rm(int rm) {
        return in(rm, 0, 499);
    }

    /** -11, -12, or 0 if all of them hold a row of bytes. */
    private int noBytes(int... numbers) {
        int refusal = 0;
        for (int shelf : numbers) {
            if (shelves[shelf] == null) {
                return -11;
            }
            refusal = shelves[shelf] instanceof byte[] ? refusal : -12;
        }
        return refusal;
    }

    private int[] roomsOn(int shelf) {
        byte[] row = (byte[]) shelves[shelf];
        int many = 0;
        while (many < row.length && many < 12 && in(row[many], 0, 4)) {
            many++;
        }
        int[] rooms = new int[many];
        for (int i = 0; i < many; i++) {
            rooms[i] = row[i];
        }
        return rooms;
    }

    public int round(int shelf, int rm, int what) {
        if (!in(shelf, 0, 5) || !rm(rm) || !in(what, 0, 2)) {
            return BAD;
        }
        int refusal = noBytes(shelf);
        return refusal != 0 ? refusal : house.round(rm / 100, rm % 100, roomsOn(shelf))[what];
    }

    /** A row's rooms, with whom it leaves one where. */
    private static final class Row {
        final int[] rooms;
        final int minute;
        final int told;

        Row(int[] rooms, int minute, int told) {
            this.rooms = rooms;
            this.minute = minute;
            this.told = told;
        }
    }

    /** HOME, and behind it the rooms of the soonest row; null: none. All rows of a length, then all one longer. */
    private int[] soonestRow(int room, int minute) {
        int[] best = null;
        List<Row> rows = List.of(new Row(new int[0], minute, 0));
        for (int length = 0; length <= 6; length++) {
            List<Row> longer = new ArrayList<>();
            for (Row row : rows) {
                int at = length == 0 ? room : row.rooms[length - 1];
                int home = row.minute + house.way(at, 0);
                if (house.must(row.told) == 0 && (best == null || home < best[0])) {
                    best = new int[length + 1];
                    best[0] = home;
                    System.arraycopy(row.rooms, 0, best, 1, length);
                }
                for (int next = 0; next < 5 && length < 6; next++) {
                    if (length == 0 || next != at) {
                        longer.add(with(row, next, row.minute + house.way(at, next)));
                    }
                }
            }
            rows = longer;
        }
        return best;
    }

    private Row with(Row row, int room, int minute) {
        int[] rooms = Arrays.copyOf(row.rooms, row.rooms.length + 1);
        rooms[row.rooms.length] = room;
        int whom = house.whom(room, minute, row.told);
        return new Row(rooms, minute + house.minutes(room, minute, whom), row.told | whom);
    }

    public int soonest(int rm, int k) {
        if (!rm(rm) || k < -1) {
            return BAD;
        }
        int[] best = soonestRow(rm / 100, rm % 100);
        return best == null || k >= best.length - 1 ? NOT : best[k + 1];
    }

    public int beginBy(int room, int home) {
        if (!in(room, 0, 4) || !in(home, 0, 999)) {
            return BAD;
        }
        for (int minute = 99; minute >= 0; minute--) {
            // Straight home is the soonest of all.
            if (minute + house.way(room, 0) <= home) {
                int[] best = soonestRow(room, minute);
                if (best != null && best[0] <= home) {
                    return minute;
                }
            }
        }
        return NOT;
    }

    public int slip(int rm, int what) {
        if (!rm(rm) || !in(what, 0, 1)) {
            return BAD;
        }
        int best = rm % 100;
        for (int minute = best; minute <= 99; minute++) {
            if (Integer.bitCount(house.notices(rm / 100, minute)) < Integer.bitCount(house.notices(rm / 100, best))) {
                best = minute;
            }
        }
        return what == 1 ? best : house.notices(rm / 100, rm % 100);
    }

    public int pair(int ss, int rr, int minute, int what) {
        if (!in(ss, 0, 59) || ss % 10 > 5 || !rooms(rr) || !in(minute, 0, 99) || !in(what, 0, 1)) {
            return BAD;
        }
        int refusal = noBytes(ss / 10, ss % 10);
        return refusal != 0 ? refusal
            : house.pair(roomsOn(ss / 10), roomsOn(ss % 10), rr / 10, rr % 10, minute)[what];
    }

    // ---- coats, the end, who knows

    private List<Integer> numbersOn(int shelf) {
        List<Integer> numbers = new ArrayList<>();
        for (byte number : (byte[]) shelves[shelf]) {
            numbers.add((int) number);
        }
        return numbers;
    }

    public int coats(int shelf, int guest) {
        if (!in(shelf, 0, 5) || !isGuest(guest)) {
            return BAD;
        }
        int refusal = noBytes(shelf);
        return refusal != 0 ? refusal : house.coats(numbersOn(shelf), guest);
    }

    public int order(int ss) {
        if (!in(ss, 0, 59) || ss % 10 > 5) {
            return BAD;
        }
        int refusal = noBytes(ss / 10, ss % 10);
        return refusal != 0 ? refusal : house.order(numbersOn(ss / 10), numbersOn(ss % 10));
    }

    public int end(int first, int what) {
        return isGuest(first) && in(what, 0, 1) ? house.end(1 << first)[what] : BAD;
    }

    public int yawn() {
        return house.yawn();
    }

    public int clear() {
        return house.clear();
    }

    public int knows(int guest, int k) {
        if (!isGuest(guest) || !in(k, -1, 99)) {
            return BAD;
        }
        return k < 0 ? house.firstAllKnow(guest) : house.knows(guest, k);
    }

    // ---- draws, told rounds

    public int drawn(int seed, int rmn, int what) {
        if (!in(rmn, 0, 49999) || !in(rmn % 100, 1, 30) || !in(what, 0, 1)) {
            return BAD;
        }
        return house.drawn(seed, rmn / 10000, rmn / 100 % 100, rmn % 100)[what];
    }

    public int judge(int shelf, int rm) {
        if (!in(shelf, 0, 5) || !rm(rm)) {
            return BAD;
        }
        int refusal = noBytes(shelf);
        if (refusal != 0) {
            return refusal;
        }
        byte[] row = (byte[]) shelves[shelf];
        int[] rooms = new int[0];
        for (int i = 0; i < row.length; i += 2) {
            rooms = Arrays.copyOf(rooms, rooms.length + 1);
            rooms[i / 2] = row[i];
            if (!in(row[i], 0, 4) || i + 1 == row.length || house.round(rm / 100, rm % 100, rooms)[0] != row[i + 1]) {
                return i / 2;
            }
        }
        return NOT;
    }

    // ---- in deed

    public int go(int room) {
        if (!in(room, 0, 4)) {
            return BAD;
        }
        led[0] += house.way(led[1], room);
        led[1] = room;
        return led[0];
    }

    public int goodbye() {
        int whom = house.whom(led[1], led[0], led[2]);
        led[0] += house.minutes(led[1], led[0], whom);
        led[2] += whom;
        led[3] += Math.min(whom, 1);
        return whom;
    }

    public int stay(int n) {
        return in(n, 1, 99) ? led[0] += n : BAD;
    }

    public int leave() {
        if (led[1] != 0) {
            return STATE;
        }
        int all = house.must(led[2]) == 0 ? 1 : 0;
        led = new int[] {0, 0, 0, led[3], led[4] + all, led[5] + 1};
        return all;
    }

    public int led(int what) {
        return in(what, 0, 5) ? led[what] : BAD;
    }

    public int image() {
        image = led.clone();
        return led[0];
    }

    public int back() {
        if (image == null) {
            return STATE;
        }
        led = image.clone();
        return led[0];
    }

    public int undo() {
        if (done.isEmpty()) {
            return STATE;
        }
        int[] change = done.pop();
        set(change[0], change[1], change[2]);
        undone.push(change);
        return done.size();
    }

    public int redo() {
        if (undone.isEmpty()) {
            return STATE;
        }
        int[] change = undone.pop();
        set(change[0], change[1], change[3]);
        done.push(change);
        return undone.size();
    }

    // ---- acts, shelves

    public int body(int kind) {
        if (!in(kind, 0, 7)) {
            return BAD;
        }
        if (bodies.size() == 50) {
            return FULL;
        }
        kinds.add(kind);
        bodies.add(BodiesTest.made(kind, bodies.size()));
        return bodies.size() - 1;
    }

    public int act(int body, int act, int x) {
        ran = List.of();
        if (!in(body, 0, bodies.size() - 1) || !in(act, 0, 3)) {
            return 0;
        }
        int answer = BodiesTest.act(bodies.get(body), act, x);
        ran = List.copyOf(BodiesTest.RAN);
        return answer;
    }

    public int trace(int i) {
        return in(i, 0, Math.min(24, ran.size()) - 1) ? ran.get(i) : BAD;
    }

    public int keep(int shelf, int body) {
        if (!in(shelf, 0, 5) || !in(body, -1, bodies.size() - 1)) {
            return BAD;
        }
        shelves[shelf] = body < 0 ? null : Integer.valueOf(body);
        return 1;
    }

    public int row(int shelf, int sort, int n) {
        if (!in(shelf, 0, 5) || !in(sort, 0, 4) || n > 60) {
            return BAD;
        }
        Class<?>[] sorts = {byte.class, short.class, int.class, long.class, boolean.class};
        try {
            shelves[shelf] = java.lang.reflect.Array.newInstance(sorts[sort], n);
        } catch (NegativeArraySizeException e) {
            return -14;
        }
        return 1;
    }

    public int put(int shelf, int i, long v) {
        if (!in(shelf, 0, 5)) {
            return BAD;
        }
        Object row = shelves[shelf];
        try {
            if (row instanceof byte[]) {
                ((byte[]) row)[i] = (byte) v;
            } else if (row instanceof short[]) {
                ((short[]) row)[i] = (short) v;
            } else if (row instanceof int[]) {
                ((int[]) row)[i] = (int) v;
            } else if (row instanceof long[]) {
                ((long[]) row)[i] = v;
            } else if (row instanceof boolean[]) {
                ((boolean[]) row)[i] = v != 0;
            } else {
                return row == null ? -11 : -12;
            }
        } catch (ArrayIndexOutOfBoundsException e) {
            return -13;
        }
        return 1;
    }

    public long element(int shelf, int i) {
        try {
            Object element = java.lang.reflect.Array.get(shelves[shelf], i);
            return element instanceof Boolean ? (Boolean) element ? 1 : 0 : ((Number) element).longValue();
        } catch (RuntimeException e) {
            return Long.MIN_VALUE;
        }
    }

    public int shift(int shelf, int i, int other, int j, int n) {
        if (!in(shelf, 0, 5) || !in(other, 0, 5)) {
            return BAD;
        }
        try {
            System.arraycopy(shelves[shelf], i, shelves[other], j, n);
        } catch (NullPointerException e) {
            return -11;
        } catch (ArrayStoreException e) {
            return -12;
        } catch (IndexOutOfBoundsException e) {
            return -13;
        }
        return n;
    }

    public int taken(int shelf, int k) {
        if (!in(shelf, 0, 5) || !in(k, 0, 7)) {
            return BAD;
        }
        if (shelves[shelf] == null) {
            return -11;
        }
        if (!(shelves[shelf] instanceof Integer)) {
            return -12;
        }
        int body = (Integer) shelves[shelf];
        return BodiesTest.made(k, 0).getClass().isInstance(bodies.get(body)) ? kinds.get(body) : -12;
    }

    public int count(int what) {
        int[] many = {house.guests.size(), Integer.bitCount(house.must(0)), tape.length(), done.size(), bodies.size(),
            ran.size()};
        return in(what, 0, 5) ? many[what] : BAD;
    }
}
