/**
 * Goodbye to all: one who wants to go says so, room by room, to each guest that must be told.
 * What every call answers stands in DOC.md; the numbers of its promises follow the order below.
 */
public final class GoodbyeAll {
    public static final int BAD = -1, NOT = -2, FULL = -3, STATE = -5, VOID = -2000000000;

    private static final int NOTHING_THERE = -11, OTHER_KIND = -12, NO_PLACE = -13, BELOW_ZERO = -14;
    private static final int FAULT_BASE = -100;
    private static final long NO_ELEMENT = 1L << 63;
    private static final int ROOMS = 5, HALL = 0, SHELVES = 6;
    private static final int LAST_MINUTE = 99, FARTHEST_MINUTE = 999, NO_LIMIT = 1000000;
    private static final int MOST_ROUND_ROOMS = 12, MOST_COMING = 10;
    private static final int CHANGES_FROM_A_ROW = 50, TALK_AT_FIRST = 2;
    private static final int MOST_DRAWN = 30, DRAWN_ROOMS = 4;

    private final House house;
    private final Law law;
    private final Tape tape;
    private final Leaver leaver;
    private final Search search;
    private final Pair two;
    private final Party party;
    private final Evening evening;
    private final Changes changes;
    private final Bodies bodies;
    private final Shelf[] shelves;

    public GoodbyeAll() {
        House newHouse = new House();
        Law newLaw = new Law();
        house = newHouse;
        law = newLaw;
        tape = new Tape();
        leaver = new Leaver(newHouse, newLaw);
        search = new Search(newHouse, newLaw);
        two = new Pair(newHouse, newLaw);
        party = new Party(newHouse);
        evening = new Evening(newHouse, newLaw);
        changes = new Changes(newHouse);
        bodies = new Bodies();
        Shelf[] newShelves = new Shelf[SHELVES];
        for (int i = 0; i < newShelves.length; i++) {
            newShelves[i] = new Shelf();
        }
        shelves = newShelves;
    }

    // ---- guests, rooms

    public int guest(int ab, int changes) {
        if (!isRoomPair(ab) || !House.fits(House.CHANGES, changes)) {
            return BAD;
        }
        return house.welcome(ab / 10, ab % 10, changes, TALK_AT_FIRST);
    }

    public int guests(int shelf, int i, int n) {
        Shelf threes = shelfAt(shelf);
        if (threes == null || n < 1 || n > MOST_COMING) {
            return BAD;
        }
        if (threes.bytesRefusal() == OTHER_KIND) {
            return OTHER_KIND;
        }
        int came = 0;
        for (int k = 0; k < n; k++) {
            // A place beyond every row stands for one that the sum would wrap past.
            int place = i < 0 || i > Shelf.MOST ? Shelf.MOST : i + 3 * k;
            if (!welcomeFrom(threes, place)) {
                break;
            }
            came++;
        }
        return came;
    }

    private boolean welcomeFrom(Shelf threes, int place) {
        if (!threes.hasBytes(place, 3)) {
            return false;
        }
        int one = threes.smallAt(place);
        int other = threes.smallAt(place + 1);
        int talk = threes.smallAt(place + 2);
        if (!House.isRoom(one) || !House.isRoom(other) || !House.fits(House.TALK, talk)) {
            return false;
        }
        return house.welcome(one, other, CHANGES_FROM_A_ROW, talk) != FULL;
    }

    public int mend(int number, int what, int v) {
        if (!house.hasFact(number, what) || !House.fits(what, v)) {
            return BAD;
        }
        int before = house.fact(number, what);
        if (before != v) {
            house.setFact(number, what, v);
            changes.add(number, what, before, v);
        }
        return before;
    }

    public int of(int number, int what) {
        return house.hasFact(number, what) ? house.fact(number, what) : BAD;
    }

    public int at(int guest, int minute) {
        if (!house.isGuest(guest) || minute < 0 || minute > FARTHEST_MINUTE) {
            return BAD;
        }
        return house.roomOf(guest, minute);
    }

    public int in(int room, int minute) {
        if (!House.isRoom(room) || minute < 0 || minute > FARTHEST_MINUTE) {
            return BAD;
        }
        return house.whoIsIn(room, minute);
    }

    public int feed(int letter) {
        if (letter < 0 || letter > 255) {
            return BAD;
        }
        return tape.add(letter) ? tape.length() : FULL;
    }

    public int law() {
        int fault = tape.read();
        if (fault < 0) {
            law.take(tape);
        }
        tape.empty();
        return fault < 0 ? 1 : FAULT_BASE - fault;
    }

    // ---- rounds

    public int round(int shelf, int rm, int what) {
        Shelf rooms = shelfAt(shelf);
        if (rooms == null || !isRoomMinute(rm) || what < 0 || what > 2) {
            return BAD;
        }
        int refusal = rooms.bytesRefusal();
        if (refusal != 0) {
            return refusal;
        }
        leaver.begin(rm / 100, rm % 100);
        int many = rooms.leadingRooms();
        for (int i = 0; i < many; i++) {
            leaver.walkTo(rooms.smallAt(i));
            leaver.tell(0);
        }
        if (what == 0) {
            return leaver.minute();
        }
        return what == 1 ? leaver.home() : house.missed(leaver.told());
    }

    public int soonest(int rm, int k) {
        if (!isRoomMinute(rm) || k < -1) {
            return BAD;
        }
        if (!search.find(rm / 100, rm % 100, NO_LIMIT)) {
            return NOT;
        }
        return k == -1 ? search.home() : search.roomOfRow(k);
    }

    public int beginBy(int room, int home) {
        if (!House.isRoom(room) || home < 0 || home > FARTHEST_MINUTE) {
            return BAD;
        }
        for (int minute = LAST_MINUTE; minute >= 0; minute--) {
            if (search.find(room, minute, home)) {
                return minute;
            }
        }
        return NOT;
    }

    public int slip(int rm, int what) {
        if (!isRoomMinute(rm) || what < 0 || what > 1) {
            return BAD;
        }
        if (what == 0) {
            return house.whoNotices(rm / 100, rm % 100);
        }
        int least = House.MOST_GUESTS + 1;
        int best = rm % 100;
        for (int minute = rm % 100; minute <= LAST_MINUTE; minute++) {
            int many = Integer.bitCount(house.whoNotices(rm / 100, minute));
            if (many < least) {
                least = many;
                best = minute;
            }
        }
        return best;
    }

    public int pair(int ss, int rr, int minute, int what) {
        Shelf one = firstShelf(ss);
        Shelf other = secondShelf(ss);
        if (one == null || other == null || !isRoomPair(rr)) {
            return BAD;
        }
        if (minute < 0 || minute > LAST_MINUTE || what < 0 || what > 1) {
            return BAD;
        }
        int refusal = refusalOfBoth(one, other);
        if (refusal != 0) {
            return refusal;
        }
        two.begin(rr / 10, rr % 10, minute);
        two.goThrough(one, other);
        return what == 0 ? two.home() : house.missed(two.toldByBoth());
    }

    // ---- coats, the end, who knows

    public int coats(int shelf, int guest) {
        Shelf pile = shelfAt(shelf);
        if (pile == null || !house.isGuest(guest)) {
            return BAD;
        }
        int refusal = pile.bytesRefusal();
        if (refusal != 0) {
            return refusal;
        }
        int place = pile.lowest(guest, 0L);
        return place < 0 ? NOT : pile.above(place, 0L);
    }

    public int order(int ss) {
        Shelf pile = firstShelf(ss);
        Shelf leaving = secondShelf(ss);
        if (pile == null || leaving == null) {
            return BAD;
        }
        int refusal = refusalOfBoth(pile, leaving);
        if (refusal != 0) {
            return refusal;
        }
        long taken = 0L;
        int lifted = 0;
        int many = leaving.size();
        for (int i = 0; i < many; i++) {
            int guest = leaving.smallAt(i);
            // Who has not come does not leave, whatever lies in the pile.
            int place = house.isGuest(guest) ? pile.lowest(guest, taken) : -1;
            if (place >= 0) {
                lifted += pile.above(place, taken);
                taken |= 1L << place;
            }
        }
        return lifted;
    }

    public int end(int first, int what) {
        if (!house.isGuest(first) || what < 0 || what > 1) {
            return BAD;
        }
        int left = party.leftBehind(1 << first);
        return what == 0 ? party.waves() : left;
    }

    public int yawn() {
        return party.bestYawner();
    }

    public int clear() {
        return party.fewestToClear();
    }

    public int knows(int guest, int k) {
        if (!house.isGuest(guest) || k < -1 || k > LAST_MINUTE) {
            return BAD;
        }
        return k == -1 ? party.firstMinuteAllKnow(guest) : party.whoKnows(guest, k);
    }

    // ---- draws, told rounds

    public int drawn(int seed, int rmn, int what) {
        int rounds = rmn % 100;
        if (rmn < 0 || !isRoomMinute(rmn / 100) || what < 0 || what > 1) {
            return BAD;
        }
        if (rounds < 1 || rounds > MOST_DRAWN) {
            return BAD;
        }
        int z = seed;
        int homes = 0;
        int done = 0;
        for (int i = 0; i < rounds; i++) {
            leaver.begin(rmn / 10000, rmn / 100 % 100);
            for (int k = 0; k < DRAWN_ROOMS; k++) {
                z = z * 1103515245 + 12345;
                leaver.walkTo((z >>> 8) % ROOMS);
                leaver.tell(0);
            }
            homes += leaver.home();
            done += house.missed(leaver.told()) == 0 ? 1 : 0;
        }
        return what == 0 ? homes : done;
    }

    public int judge(int shelf, int rm) {
        Shelf twos = shelfAt(shelf);
        if (twos == null || !isRoomMinute(rm)) {
            return BAD;
        }
        int refusal = twos.bytesRefusal();
        if (refusal != 0) {
            return refusal;
        }
        leaver.begin(rm / 100, rm % 100);
        int many = (twos.size() + 1) / 2;
        for (int i = 0; i < many; i++) {
            if (!isTrue(twos, 2 * i)) {
                return i;
            }
        }
        return NOT;
    }

    private boolean isTrue(Shelf twos, int place) {
        if (!twos.hasBytes(place, 2) || !House.isRoom(twos.smallAt(place))) {
            return false;
        }
        leaver.walkTo(twos.smallAt(place));
        leaver.tell(0);
        return leaver.minute() == twos.smallAt(place + 1);
    }

    // ---- in deed

    public int go(int room) {
        return House.isRoom(room) ? evening.walk(room) : BAD;
    }

    public int goodbye() {
        return evening.tellAll();
    }

    public int stay(int n) {
        return n < 1 || n > LAST_MINUTE ? BAD : evening.linger(n);
    }

    public int leave() {
        return evening.inHall() ? evening.close() : STATE;
    }

    public int led(int what) {
        return evening.told(what);
    }

    public int image() {
        return evening.keepImage();
    }

    public int back() {
        return evening.hasImage() ? evening.layBack() : STATE;
    }

    public int undo() {
        return changes.takeBack() ? changes.undoable() : STATE;
    }

    public int redo() {
        return changes.doAgain() ? changes.redoable() : STATE;
    }

    // ---- acts, shelves

    public int body(int kind) {
        return Bodies.isKind(kind) ? bodies.add(kind) : BAD;
    }

    public int act(int body, int act, int x) {
        return bodies.perform(body, act, x);
    }

    public int trace(int i) {
        return bodies.ranAt(i);
    }

    public int keep(int shelf, int body) {
        Shelf place = shelfAt(shelf);
        if (place == null || (body != -1 && !bodies.isBody(body))) {
            return BAD;
        }
        if (body == -1) {
            place.holdNothing();
        } else {
            place.holdBody(body);
        }
        return 1;
    }

    public int row(int shelf, int sort, int n) {
        Shelf place = shelfAt(shelf);
        if (place == null || !Shelf.isSort(sort) || n > Shelf.MOST) {
            return BAD;
        }
        if (n < 0) {
            return BELOW_ZERO;
        }
        place.holdRow(sort, n);
        return 1;
    }

    public int put(int shelf, int i, long v) {
        Shelf place = shelfAt(shelf);
        if (place == null) {
            return BAD;
        }
        int refusal = place.elementRefusal(i);
        if (refusal != 0) {
            return refusal;
        }
        place.write(i, v);
        return 1;
    }

    public long element(int shelf, int i) {
        Shelf place = shelfAt(shelf);
        if (place == null || place.elementRefusal(i) != 0) {
            return NO_ELEMENT;
        }
        return place.read(i);
    }

    public int shift(int shelf, int i, int other, int j, int n) {
        Shelf from = shelfAt(shelf);
        Shelf to = shelfAt(other);
        if (from == null || to == null) {
            return BAD;
        }
        if (from.isEmpty() || to.isEmpty()) {
            return NOTHING_THERE;
        }
        if (!from.holdsRow() || !to.holdsRow() || from.sort() != to.sort()) {
            return OTHER_KIND;
        }
        if (!from.hasPlaces(i, n) || !to.hasPlaces(j, n)) {
            return NO_PLACE;
        }
        to.copyFrom(from, i, j, n);
        return n;
    }

    public int taken(int shelf, int k) {
        Shelf place = shelfAt(shelf);
        if (place == null || !Bodies.isKind(k)) {
            return BAD;
        }
        if (place.isEmpty()) {
            return NOTHING_THERE;
        }
        int kind = place.holdsBody() ? bodies.kindOf(place.heldBody()) : -1;
        return Bodies.isUnder(kind, k) ? kind : OTHER_KIND;
    }

    public int count(int what) {
        switch (what) {
            case 0:
                return house.guestCount();
            case 1:
                return Integer.bitCount(house.missed(0));
            case 2:
                return tape.length();
            case 3:
                return changes.undoable();
            case 4:
                return bodies.bodyCount();
            case 5:
                return bodies.runCount();
            default:
                return BAD;
        }
    }

    // ---- what several calls ask

    private static boolean isRoomPair(int rooms) {
        return rooms >= 0 && House.isRoom(rooms / 10) && House.isRoom(rooms % 10);
    }

    private static boolean isRoomMinute(int rm) {
        return rm >= 0 && House.isRoom(rm / 100);
    }

    private Shelf shelfAt(int shelf) {
        return shelf >= 0 && shelf < shelves.length ? shelves[shelf] : null;
    }

    private Shelf firstShelf(int ss) {
        return ss < 0 ? null : shelfAt(ss / 10);
    }

    private Shelf secondShelf(int ss) {
        return ss < 0 ? null : shelfAt(ss % 10);
    }

    private static int refusalOfBoth(Shelf one, Shelf other) {
        // -11 of the second goes ahead of -12 of the first.
        if (one.isEmpty() || other.isEmpty()) {
            return NOTHING_THERE;
        }
        return one.holdsBytes() && other.holdsBytes() ? 0 : OTHER_KIND;
    }

    /** The rooms, the ways between them, and the guests. */
    static final class House {
        static final int MOST_GUESTS = 10;
        static final int ONE_ROOM = 0, OTHER_ROOM = 1, CHANGES = 2, TALK = 3, MUST = 4, HOST = 5, LEAVES = 6, WAY = 7;

        private static final int[] LEAST = {0, 0, 0, 0, 0, 0, 1, 1};
        private static final int[] GREATEST = {4, 4, 99, 9, 1, 1, 11, 9};
        private static final int MINUTES = 100, NEVER = 11;

        private final int[][] facts = new int[WAY][MOST_GUESTS];
        private final int[] ways = {1, 1, 1, 1};
        // Who is in a room in a minute: kept, since a search asks it some hundred thousand times.
        private final int[][] present = new int[ROOMS][MINUTES];
        private int guests;
        private int mustBits;
        private int hostBits;

        static boolean isRoom(int room) {
            return room >= 0 && room < ROOMS;
        }

        static boolean fits(int what, int v) {
            return what >= 0 && what < LEAST.length && what < GREATEST.length
                && v >= LEAST[what] && v <= GREATEST[what];
        }

        int guestCount() {
            return guests;
        }

        int everybody() {
            return (1 << guests) - 1;
        }

        boolean isGuest(int guest) {
            return guest >= 0 && guest < guests && guest < MOST_GUESTS;
        }

        int welcome(int one, int other, int changes, int talk) {
            if (guests >= MOST_GUESTS) {
                return FULL;
            }
            int guest = guests;
            guests++;
            setFact(guest, CHANGES, changes);
            setFact(guest, TALK, talk);
            setFact(guest, MUST, 1);
            setFact(guest, LEAVES, NEVER);
            setFact(guest, ONE_ROOM, one);
            setFact(guest, OTHER_ROOM, other);
            return guest;
        }

        boolean hasFact(int number, int what) {
            if (what == WAY) {
                return number >= 0 && number < ways.length;
            }
            return what >= 0 && what < facts.length && isGuest(number);
        }

        int fact(int number, int what) {
            if (!hasFact(number, what)) {
                return BAD;
            }
            return what == WAY ? ways[number] : facts[what][number];
        }

        void setFact(int number, int what, int v) {
            if (!hasFact(number, what)) {
                return;
            }
            if (what == WAY) {
                ways[number] = v;
                return;
            }
            facts[what][number] = v;
            if (what == MUST) {
                mustBits = withBit(mustBits, number, v == 1);
            } else if (what == HOST) {
                hostBits = withBit(hostBits, number, v == 1);
            } else if (what <= CHANGES) {
                seat(number);
            }
        }

        private static int withBit(int bits, int number, boolean stands) {
            return stands ? bits | 1 << number : bits & ~(1 << number);
        }

        private void seat(int guest) {
            for (int minute = 0; minute < MINUTES; minute++) {
                int where = roomOf(guest, minute);
                for (int room = 0; room < ROOMS; room++) {
                    present[room][minute] = withBit(present[room][minute], guest, room == where);
                }
            }
        }

        int roomOf(int guest, int minute) {
            if (!isGuest(guest)) {
                return BAD;
            }
            return facts[minute >= facts[CHANGES][guest] ? OTHER_ROOM : ONE_ROOM][guest];
        }

        int whoIsIn(int room, int minute) {
            if (!isRoom(room) || minute < 0) {
                return 0;
            }
            return present[room][minute < MINUTES ? minute : MINUTES - 1];
        }

        int wayBetween(int one, int other) {
            int from = Math.max(0, Math.min(one, other));
            int to = Math.min(ways.length, Math.max(one, other));
            int minutes = 0;
            for (int i = from; i < to; i++) {
                minutes += ways[i];
            }
            return minutes;
        }

        int missed(int told) {
            return mustBits & ~told;
        }

        /** Who is told by a goodbye in that room that begins in that minute. */
        int whomToTell(int room, int minute, int told) {
            int here = whoIsIn(room, minute);
            int open = mustBits & ~told;
            int others = open & ~hostBits;
            int heard = others & here;
            return heard == others ? open & here : heard;
        }

        /**
         * How many rooms must be entered at least, from that minute on, to tell all that were not told:
         * each in which somebody stays for good; one for its hosts once more, unless it is the last of the others'.
         */
        int roomsAhead(int minute, int told) {
            int open = mustBits & ~told;
            int rooms = 0;
            int shared = 0;
            for (int room = 0; room < ROOMS; room++) {
                // Nobody changes twice: whoever is there now and in the last minute stays.
                int staying = whoIsIn(room, minute) & present[room][MINUTES - 1] & open;
                boolean others = (staying & ~hostBits) != 0;
                boolean hosts = (staying & hostBits) != 0;
                rooms += (others ? 1 : 0) + (hosts ? 1 : 0);
                shared = others && hosts ? 1 : shared;
            }
            return rooms - shared;
        }

        boolean hasHost(int bits) {
            return (bits & hostBits) != 0;
        }

        int greatestTalk(int bits) {
            int greatest = 0;
            for (int guest = 0; guest < guests && guest < MOST_GUESTS; guest++) {
                if ((bits >> guest & 1) == 1) {
                    greatest = Math.max(greatest, facts[TALK][guest]);
                }
            }
            return greatest;
        }

        int whoNotices(int room, int minute) {
            int noticing = room == HALL ? whoIsIn(HALL, minute) : 0;
            int now = minute;
            for (int next = room - 1; next >= 0; next--) {
                now += wayBetween(next + 1, next);
                noticing |= whoIsIn(next, now);
            }
            return noticing;
        }
    }

    /** How many minutes a goodbye takes: the text in steps, an operator behind what it joins. */
    static final class Law {
        static final int NUMBER = '0', NAME = 'a', NEGATE = '~', CONDITION = '?', LINE_END = ';';
        static final int MOST_STEPS = 256;

        private static final int LEAST = 1, GREATEST = 30, NAMES = 5;

        private final int[] steps = new int[MOST_STEPS];
        private final int[] values = new int[MOST_STEPS];
        private final int[] names = new int[NAMES];
        private final int[] stack = new int[MOST_STEPS];
        private int size;
        private int top;

        static int nameOf(int sign) {
            switch (sign) {
                case 't':
                    return 0;
                case 'n':
                    return 1;
                case 'a':
                    return 2;
                case 'h':
                    return 3;
                case 'm':
                    return 4;
                default:
                    return -1;
            }
        }

        void take(Tape tape) {
            size = Math.min(tape.stepCount(), MOST_STEPS);
            for (int i = 0; i < size; i++) {
                steps[i] = tape.stepAt(i);
                values[i] = tape.valueAt(i);
            }
        }

        int minutes(House house, int room, int minute, int whom) {
            if (whom == 0) {
                return 0;
            }
            int talk = house.greatestTalk(whom);
            int many = Integer.bitCount(whom);
            if (size == 0) {
                return Math.max(LEAST, talk + many);
            }
            names[0] = talk;
            names[1] = many;
            names[2] = Integer.bitCount(house.whoIsIn(room, minute));
            names[3] = house.hasHost(whom) ? 1 : 0;
            names[4] = minute;
            return Math.max(LEAST, Math.min(GREATEST, worth()));
        }

        private int worth() {
            boolean skipping = false;
            top = 0;
            for (int i = 0; i < size && i < MOST_STEPS; i++) {
                int step = steps[i];
                if (step == LINE_END) {
                    if (!skipping) {
                        return pop();
                    }
                    skipping = false;
                } else if (!skipping) {
                    if (step == CONDITION) {
                        skipping = pop() == 0;
                    } else {
                        apply(step, values[i]);
                    }
                }
            }
            return 0;
        }

        private void apply(int step, int value) {
            if (step == NUMBER) {
                push(value);
            } else if (step == NAME) {
                push(value >= 0 && value < NAMES ? names[value] : 0);
            } else if (step == '!') {
                push(pop() == 0 ? 1 : 0);
            } else if (step == NEGATE) {
                push(-pop());
            } else {
                int right = pop();
                int left = pop();
                push(join(step, left, right));
            }
        }

        private static int join(int sign, int left, int right) {
            switch (sign) {
                case '|':
                    return left != 0 || right != 0 ? 1 : 0;
                case '&':
                    return left != 0 && right != 0 ? 1 : 0;
                case '<':
                    return left < right ? 1 : 0;
                case '=':
                    return left == right ? 1 : 0;
                case '>':
                    return left > right ? 1 : 0;
                case '+':
                    return left + right;
                case '-':
                    return left - right;
                case '*':
                    return left * right;
                case '/':
                    return right == 0 ? 0 : left / right;
                case '%':
                    return right == 0 ? 0 : left % right;
                default:
                    return 0;
            }
        }

        private void push(int value) {
            if (top >= 0 && top < MOST_STEPS) {
                stack[top] = value;
                top++;
            }
        }

        private int pop() {
            if (top < 1 || top > MOST_STEPS) {
                return 0;
            }
            top--;
            return stack[top];
        }
    }

    /** The bytes of a text to come, and how they are read. */
    static final class Tape {
        private static final int MOST = 120, MOST_DIGITS = 4, MOST_OPEN = 6;
        // What binds more loosely has the lower level; an operand stands behind the last one.
        private static final int COMPARING = 2, OPERAND = 5;

        private final int[] bytes = new int[MOST];
        private final int[] steps = new int[Law.MOST_STEPS];
        private final int[] values = new int[Law.MOST_STEPS];
        private int length;
        private int place;
        private int size;

        int length() {
            return length;
        }

        boolean add(int letter) {
            if (length < 0 || length >= MOST) {
                return false;
            }
            bytes[length] = letter;
            length++;
            return true;
        }

        void empty() {
            length = 0;
        }

        int stepCount() {
            return size;
        }

        int stepAt(int i) {
            return i >= 0 && i < size && i < Law.MOST_STEPS ? steps[i] : 0;
        }

        int valueAt(int i) {
            return i >= 0 && i < size && i < Law.MOST_STEPS ? values[i] : 0;
        }

        /** The fault's place, or -1. */
        int read() {
            place = 0;
            size = 0;
            for (int line = 0; line <= MOST; line++) {
                if (!readLine()) {
                    return place;
                }
                if (place >= length) {
                    return -1;
                }
                if (sign() != ';') {
                    return place;
                }
                place++;
            }
            return place;
        }

        private boolean readLine() {
            if (!readLevel(0, 0)) {
                return false;
            }
            if (sign() == '?') {
                place++;
                write(Law.CONDITION, 0);
                if (!readLevel(0, 0)) {
                    return false;
                }
            }
            write(Law.LINE_END, 0);
            return true;
        }

        private boolean readLevel(int level, int open) {
            if (level >= OPERAND) {
                return readOperand(open);
            }
            if (!readLevel(level + 1, open)) {
                return false;
            }
            int most = level == COMPARING ? 1 : MOST;
            for (int i = 0; i < most && levelOf(sign()) == level; i++) {
                int joining = sign();
                place++;
                if (!readLevel(level + 1, open)) {
                    return false;
                }
                write(joining, 0);
            }
            return true;
        }

        private static int levelOf(int sign) {
            switch (sign) {
                case '|':
                    return 0;
                case '&':
                    return 1;
                case '<':
                case '=':
                case '>':
                    return COMPARING;
                case '+':
                case '-':
                    return 3;
                case '*':
                case '/':
                case '%':
                    return 4;
                default:
                    return -1;
            }
        }

        private boolean readOperand(int open) {
            int first = sign();
            int name = Law.nameOf(first);
            if (name >= 0) {
                place++;
                write(Law.NAME, name);
                return true;
            }
            if (isDigit(first)) {
                readNumber();
                return true;
            }
            if ((first != '(' && first != '!' && first != '-') || open >= MOST_OPEN) {
                return false;
            }
            place++;
            return first == '(' ? readInner(open + 1) : readPrefixed(first, open + 1);
        }

        private boolean readInner(int open) {
            if (!readLevel(0, open) || sign() != ')') {
                return false;
            }
            place++;
            return true;
        }

        private boolean readPrefixed(int prefix, int open) {
            if (!readOperand(open)) {
                return false;
            }
            write(prefix == '-' ? Law.NEGATE : prefix, 0);
            return true;
        }

        private void readNumber() {
            int number = 0;
            for (int i = 0; i < MOST_DIGITS && isDigit(sign()); i++) {
                number = number * 10 + sign() - '0';
                place++;
            }
            write(Law.NUMBER, number);
        }

        private static boolean isDigit(int sign) {
            return sign >= '0' && sign <= '9';
        }

        /** The byte to be read next; -1 behind the last one. */
        private int sign() {
            return place >= 0 && place < length && place < MOST ? bytes[place] : -1;
        }

        private void write(int step, int value) {
            if (size >= 0 && size < Law.MOST_STEPS) {
                steps[size] = step;
                values[size] = value;
                size++;
            }
        }
    }

    /** One who goes from room to room and says goodbye. */
    static final class Leaver {
        private final House house;
        private final Law law;
        private int room;
        private int minute;
        private int told;

        Leaver(House house, Law law) {
            this.house = house;
            this.law = law;
        }

        void begin(int inRoom, int atMinute) {
            stand(inRoom, atMinute, 0);
        }

        void stand(int inRoom, int atMinute, int toldOnes) {
            room = inRoom;
            minute = atMinute;
            told = toldOnes;
        }

        int room() {
            return room;
        }

        int minute() {
            return minute;
        }

        int told() {
            return told;
        }

        int arrival(int next) {
            return minute + house.wayBetween(room, next);
        }

        int home() {
            return arrival(HALL);
        }

        void walkTo(int next) {
            minute = arrival(next);
            room = next;
        }

        void linger(int minutes) {
            minute += minutes;
        }

        /** Says goodbye where it is: whom, none of those that somebody else has told. */
        int tell(int toldElsewhere) {
            int whom = house.whomToTell(room, minute, told | toldElsewhere);
            minute += law.minutes(house, room, minute, whom);
            told |= whom;
            return whom;
        }
    }

    /** The soonest row of rooms by which all are told. */
    static final class Search {
        private static final int MOST = 6;

        private final House house;
        private final Law law;
        private final int[] row = new int[MOST];
        private final int[] best = new int[MOST];
        private int bestLength;
        private int bestHome;
        private boolean found;

        Search(House house, Law law) {
            this.house = house;
            this.law = law;
        }

        /** Whether there is a row with a home no later than the latest one; the soonest is kept. */
        boolean find(int room, int minute, int latest) {
            found = false;
            bestHome = latest;
            bestLength = MOST + 1;
            seek(room, minute, 0, 0);
            return found;
        }

        int home() {
            return bestHome;
        }

        int roomOfRow(int k) {
            return k >= 0 && k < bestLength && k < MOST ? best[k] : NOT;
        }

        private void seek(int room, int minute, int told, int length) {
            int home = minute + house.wayBetween(room, HALL);
            // No longer row comes home sooner, so what is not better here is not better further on.
            if (home > bestHome || (home == bestHome && length >= bestLength)) {
                return;
            }
            if (house.missed(told) == 0) {
                keepRow(home, length);
                return;
            }
            if (house.roomsAhead(minute, told) > MOST - length) {
                return;
            }
            for (int next = 0; next < ROOMS; next++) {
                if (length == 0 || next != room) {
                    enter(next, minute + house.wayBetween(room, next), told, length);
                }
            }
        }

        private void enter(int room, int minute, int told, int length) {
            int whom = house.whomToTell(room, minute, told);
            // A last room that leaves somebody untold is not worth working out its minutes.
            if (length < 0 || length >= MOST || (length == MOST - 1 && house.missed(told | whom) != 0)) {
                return;
            }
            row[length] = room;
            seek(room, minute + law.minutes(house, room, minute, whom), told | whom, length + 1);
        }

        private void keepRow(int home, int length) {
            found = true;
            bestHome = home;
            bestLength = length;
            for (int i = 0; i < length && i < MOST; i++) {
                best[i] = row[i];
            }
        }
    }

    /** Two who go at the same time; each goodbye is kept with its end, for the other one to know. */
    static final class Pair {
        private final House house;
        private final Leaver one;
        private final Leaver other;
        private final int[][] ends = new int[2][MOST_ROUND_ROOMS];
        private final int[][] whoms = new int[2][MOST_ROUND_ROOMS];
        private int said;
        private int otherSaid;

        Pair(House house, Law law) {
            this.house = house;
            one = new Leaver(house, law);
            other = new Leaver(house, law);
        }

        void begin(int room, int otherRoom, int minute) {
            one.begin(room, minute);
            other.begin(otherRoom, minute);
            said = 0;
            otherSaid = 0;
        }

        /** Who comes to a goodbye first says it first: only what ended ahead of it counts for it. */
        void goThrough(Shelf rooms, Shelf otherRooms) {
            int many = rooms.leadingRooms();
            int otherMany = otherRooms.leadingRooms();
            for (int i = 0; i < 2 * MOST_ROUND_ROOMS; i++) {
                boolean mayGo = said < many;
                boolean otherMayGo = otherSaid < otherMany;
                if (!mayGo && !otherMayGo) {
                    break;
                }
                int next = rooms.smallAt(said);
                int otherNext = otherRooms.smallAt(otherSaid);
                if (!otherMayGo || (mayGo && one.arrival(next) <= other.arrival(otherNext))) {
                    visit(one, next, 0, said, otherSaid);
                    said++;
                } else {
                    visit(other, otherNext, 1, otherSaid, said);
                    otherSaid++;
                }
            }
        }

        private void visit(Leaver who, int room, int side, int number, int theirs) {
            who.walkTo(room);
            int whom = who.tell(toldBefore(who.minute(), 1 - side, theirs));
            if (side >= 0 && side < 2 && number >= 0 && number < MOST_ROUND_ROOMS) {
                ends[side][number] = who.minute();
                whoms[side][number] = whom;
            }
        }

        private int toldBefore(int minute, int side, int many) {
            if (side < 0 || side >= 2) {
                return 0;
            }
            int told = 0;
            for (int i = 0; i < many && i < MOST_ROUND_ROOMS; i++) {
                if (ends[side][i] < minute) {
                    told |= whoms[side][i];
                }
            }
            return told;
        }

        int home() {
            return Math.max(one.home(), other.home());
        }

        int toldByBoth() {
            return one.told() | other.told();
        }
    }

    /** How the party ends, and who comes to know. */
    static final class Party {
        private final House house;
        // Who leaves as so many have left.
        private final int[] leaving = new int[House.MOST_GUESTS + 1];
        private int waves;

        Party(House house) {
            this.house = house;
        }

        int waves() {
            return waves;
        }

        int leftBehind(int first) {
            readLeaving();
            return stayingBehind(first);
        }

        int bestYawner() {
            readLeaving();
            int best = NOT;
            int fewest = House.MOST_GUESTS + 1;
            int many = house.guestCount();
            for (int guest = 0; guest < many; guest++) {
                int left = Integer.bitCount(stayingBehind(1 << guest));
                if (left < fewest) {
                    fewest = left;
                    best = guest;
                }
            }
            return best;
        }

        int fewestToClear() {
            readLeaving();
            int all = house.everybody();
            int best = all;
            for (int first = 0; first <= all; first++) {
                if (Integer.bitCount(first) < Integer.bitCount(best) && stayingBehind(first) == 0) {
                    best = first;
                }
            }
            return best;
        }

        private void readLeaving() {
            int many = house.guestCount();
            for (int gone = 0; gone < leaving.length; gone++) {
                int bits = 0;
                for (int guest = 0; guest < many; guest++) {
                    if (house.fact(guest, House.LEAVES) <= gone) {
                        bits |= 1 << guest;
                    }
                }
                leaving[gone] = bits;
            }
        }

        private int stayingBehind(int first) {
            int gone = first;
            waves = 0;
            for (int i = 0; i <= House.MOST_GUESTS; i++) {
                int many = Integer.bitCount(gone);
                int next = many < leaving.length ? gone | leaving[many] : gone;
                if (next == gone) {
                    break;
                }
                gone = next;
                waves++;
            }
            return house.everybody() & ~gone;
        }

        int whoKnows(int guest, int minutes) {
            int known = 1 << guest;
            for (int minute = 1; minute <= minutes; minute++) {
                known = spread(known, minute);
            }
            return known;
        }

        int firstMinuteAllKnow(int guest) {
            int known = 1 << guest;
            // Nobody changes rooms beyond minute 99: from there on each minute tells one more, or none ever does.
            int latest = LAST_MINUTE + House.MOST_GUESTS;
            for (int minute = 0; minute <= latest; minute++) {
                if (minute > 0) {
                    known = spread(known, minute);
                }
                if (known == house.everybody()) {
                    return minute;
                }
            }
            return NOT;
        }

        private int spread(int known, int minute) {
            int knowing = known;
            for (int room = 0; room < ROOMS; room++) {
                int here = house.whoIsIn(room, minute);
                int telling = here & known;
                knowing |= here & (telling << 1 | telling >> 1);
            }
            return knowing;
        }
    }

    /** What is done in deed, evening by evening. */
    static final class Evening {
        private static final int FACTS = 6;

        private final House house;
        private final Leaver leaver;
        private final int[] kept = new int[FACTS];
        private boolean imageKept;
        private int goodbyes;
        private int done;
        private int evenings;

        Evening(House house, Law law) {
            this.house = house;
            leaver = new Leaver(house, law);
        }

        int walk(int room) {
            leaver.walkTo(room);
            return leaver.minute();
        }

        int tellAll() {
            int whom = leaver.tell(0);
            goodbyes += whom == 0 ? 0 : 1;
            return whom;
        }

        int linger(int minutes) {
            leaver.linger(minutes);
            return leaver.minute();
        }

        boolean inHall() {
            return leaver.room() == HALL;
        }

        int close() {
            int all = house.missed(leaver.told()) == 0 ? 1 : 0;
            done += all;
            evenings++;
            leaver.begin(HALL, 0);
            return all;
        }

        int told(int what) {
            switch (what) {
                case 0:
                    return leaver.minute();
                case 1:
                    return leaver.room();
                case 2:
                    return leaver.told();
                case 3:
                    return goodbyes;
                case 4:
                    return done;
                case 5:
                    return evenings;
                default:
                    return BAD;
            }
        }

        boolean hasImage() {
            return imageKept;
        }

        int keepImage() {
            for (int i = 0; i < FACTS; i++) {
                kept[i] = told(i);
            }
            imageKept = true;
            return leaver.minute();
        }

        int layBack() {
            leaver.stand(kept[1], kept[0], kept[2]);
            goodbyes = kept[3];
            done = kept[4];
            evenings = kept[5];
            return leaver.minute();
        }
    }

    /** The changes that can be undone, and behind them those that can be done again. */
    static final class Changes {
        private static final int MOST = 40;

        private final House house;
        private final int[] numbers = new int[MOST];
        private final int[] whats = new int[MOST];
        private final int[] befores = new int[MOST];
        private final int[] afters = new int[MOST];
        private int done;
        private int known;

        Changes(House house) {
            this.house = house;
        }

        int undoable() {
            return done;
        }

        int redoable() {
            return known - done;
        }

        void add(int number, int what, int before, int after) {
            if (done >= MOST) {
                dropOldest();
            }
            if (done < 0 || done >= MOST) {
                return;
            }
            numbers[done] = number;
            whats[done] = what;
            befores[done] = before;
            afters[done] = after;
            done++;
            known = done;
        }

        private void dropOldest() {
            for (int i = 1; i < MOST; i++) {
                numbers[i - 1] = numbers[i];
                whats[i - 1] = whats[i];
                befores[i - 1] = befores[i];
                afters[i - 1] = afters[i];
            }
            done = MOST - 1;
        }

        boolean takeBack() {
            if (done < 1 || done > MOST) {
                return false;
            }
            done--;
            house.setFact(numbers[done], whats[done], befores[done]);
            return true;
        }

        boolean doAgain() {
            if (done < 0 || done >= known || done >= MOST) {
                return false;
            }
            house.setFact(numbers[done], whats[done], afters[done]);
            done++;
            return true;
        }
    }

    /** The bodies kept by call, their acts, and which bodies of acts ran. */
    static final class Bodies {
        private static final int MOST = 50, MOST_RAN = 24, KINDS = 8, ACTS = 4, DEEPEST = 30;
        private static final int SAYS = 0, STAYS = 1, TURNS = 2, TELLS = 3;
        private static final int[] ABOVE = {-1, 0, 0, 2, 1, 3, 0, 6};
        // By kind, the bodies of says, stays, turns, tells; 0 where it has none of its own.
        private static final int[] OWN = {
            1, 10, 11, 2,
            20, 0, 0, 0,
            0, 30, 0, 0,
            0, 41, 40, 0,
            0, 0, 0, 50,
            0, 0, 60, 61,
            70, 0, 0, 0,
            81, 80, 0, 0
        };

        private final int[] kinds = new int[MOST];
        private final int[] ran = new int[MOST_RAN];
        private int bodies;
        private int runs;

        static boolean isKind(int kind) {
            return kind >= 0 && kind < KINDS;
        }

        static boolean isUnder(int kind, int top) {
            int now = kind;
            for (int i = 0; i < KINDS && isKind(now); i++) {
                if (now == top) {
                    return true;
                }
                now = kindAbove(now);
            }
            return false;
        }

        private static int kindAbove(int kind) {
            return kind >= 0 && kind < ABOVE.length ? ABOVE[kind] : -1;
        }

        private static int ownBody(int kind, int act) {
            int place = kind * ACTS + act;
            return isKind(kind) && place >= 0 && place < OWN.length ? OWN[place] : 0;
        }

        int bodyCount() {
            return bodies;
        }

        int runCount() {
            return runs;
        }

        boolean isBody(int body) {
            return body >= 0 && body < bodies && body < MOST;
        }

        int kindOf(int body) {
            return isBody(body) ? kinds[body] : -1;
        }

        int add(int kind) {
            if (bodies < 0 || bodies >= MOST) {
                return FULL;
            }
            kinds[bodies] = kind;
            bodies++;
            return bodies - 1;
        }

        int ranAt(int i) {
            return i >= 0 && i < runs && i < MOST_RAN ? ran[i] : BAD;
        }

        int perform(int body, int act, int x) {
            runs = 0;
            if (!isBody(body) || act < 0 || act >= ACTS) {
                return 0;
            }
            return call(kindOf(body), act, x, body, 0);
        }

        /** Runs the act's body of that kind, or of the next one above that has one. */
        private int call(int from, int act, int x, int n, int depth) {
            int kind = from;
            for (int i = 0; i < KINDS && isKind(kind) && ownBody(kind, act) == 0; i++) {
                kind = kindAbove(kind);
            }
            if (!isKind(kind) || depth >= DEEPEST) {
                return 0;
            }
            int number = ownBody(kind, act);
            note(number);
            return act == TURNS || act == TELLS
                ? runLater(number, kindAbove(kind), x, n, depth + 1)
                : runFirst(number, kindAbove(kind), x, n, depth + 1);
        }

        private void note(int number) {
            if (runs >= 0 && runs < MOST_RAN) {
                ran[runs] = number;
            }
            runs++;
        }

        /** A body that says or stays. */
        private int runFirst(int number, int above, int x, int n, int depth) {
            int own = kindOf(n);
            switch (number) {
                case 1:
                    return x + n;
                case 10:
                    return call(own, SAYS, x, n, depth) * 2;
                case 20:
                    return call(above, SAYS, x, n, depth) + 3;
                case 30:
                    return -call(above, STAYS, x, n, depth);
                case 41:
                    return call(above, STAYS, x + 1, n, depth);
                case 70:
                    return call(above, SAYS, x, n, depth) * 2;
                case 80:
                    return call(above, STAYS, x, n, depth) + call(own, TURNS, 2, n, depth);
                case 81:
                    return call(above, SAYS, x, n, depth) - 1;
                default:
                    return 0;
            }
        }

        /** A body that turns or tells. */
        private int runLater(int number, int above, int x, int n, int depth) {
            int own = kindOf(n);
            switch (number) {
                case 2:
                    return call(own, STAYS, x, n, depth) - call(own, TURNS, 1, n, depth);
                case 11:
                    return x ^ n;
                case 40:
                    return call(above, TURNS, x, n, depth) * 3;
                case 50:
                    return call(above, TELLS, x, n, depth) ^ 5;
                case 60:
                    return call(above, TURNS, x, n, depth) - call(own, SAYS, 2, n, depth);
                case 61:
                    return call(above, TELLS, x, n, depth) + 1;
                default:
                    return 0;
            }
        }
    }

    /** A shelf: nothing, a body, or a row. */
    static final class Shelf {
        static final int MOST = 60;

        private static final int NOTHING = 0, BODY = 1, ROW = 2;
        private static final int BYTES = 0, SHORTS = 1, INTS = 2, LONGS = 3, BOOLEANS = 4;

        private final long[] elements = new long[MOST];
        private int holding = NOTHING;
        private int body;
        private int sort;
        private int size;

        static boolean isSort(int sort) {
            return sort >= BYTES && sort <= BOOLEANS;
        }

        boolean isEmpty() {
            return holding == NOTHING;
        }

        boolean holdsBody() {
            return holding == BODY;
        }

        boolean holdsRow() {
            return holding == ROW;
        }

        boolean holdsBytes() {
            return holding == ROW && sort == BYTES;
        }

        int heldBody() {
            return body;
        }

        int sort() {
            return sort;
        }

        int size() {
            return size;
        }

        void holdNothing() {
            holding = NOTHING;
            size = 0;
        }

        void holdBody(int newBody) {
            holding = BODY;
            body = newBody;
            size = 0;
        }

        void holdRow(int newSort, int n) {
            holding = ROW;
            sort = newSort;
            size = Math.max(0, Math.min(n, MOST));
            for (int i = 0; i < size; i++) {
                elements[i] = 0L;
            }
        }

        int bytesRefusal() {
            if (isEmpty()) {
                return NOTHING_THERE;
            }
            return holdsBytes() ? 0 : OTHER_KIND;
        }

        int elementRefusal(int i) {
            if (isEmpty()) {
                return NOTHING_THERE;
            }
            if (!holdsRow()) {
                return OTHER_KIND;
            }
            return hasPlaces(i, 1) ? 0 : NO_PLACE;
        }

        boolean hasPlaces(int i, int n) {
            return i >= 0 && n >= 0 && n <= size && i <= size - n;
        }

        boolean hasBytes(int i, int n) {
            return holdsBytes() && hasPlaces(i, n);
        }

        long read(int i) {
            return hasPlaces(i, 1) ? elements[i] : 0L;
        }

        /** An element of a row of bytes; -1, which is no room and no guest, where there is none. */
        int smallAt(int i) {
            return hasBytes(i, 1) ? (int) elements[i] : -1;
        }

        void write(int i, long v) {
            if (hasPlaces(i, 1)) {
                elements[i] = lowestBits(v);
            }
        }

        private long lowestBits(long v) {
            switch (sort) {
                case BYTES:
                    return (byte) v;
                case SHORTS:
                    return (short) v;
                case INTS:
                    return (int) v;
                case LONGS:
                    return v;
                default:
                    return v != 0L ? 1L : 0L;
            }
        }

        void copyFrom(Shelf from, int i, int j, int n) {
            if (from.hasPlaces(i, n) && hasPlaces(j, n)) {
                System.arraycopy(from.elements, i, elements, j, n);
            }
        }

        int leadingRooms() {
            for (int i = 0; i < MOST_ROUND_ROOMS; i++) {
                if (!House.isRoom(smallAt(i))) {
                    return i;
                }
            }
            return MOST_ROUND_ROOMS;
        }

        /** The lowest place of a guest's coat; -1: none. Bit i of taken tells that coat i is gone. */
        int lowest(int guest, long taken) {
            for (int i = 0; i < size && i < MOST; i++) {
                if ((taken >>> i & 1L) == 0L && elements[i] == guest) {
                    return i;
                }
            }
            return -1;
        }

        int above(int place, long taken) {
            int many = 0;
            for (int i = Math.max(0, place + 1); i < size && i < MOST; i++) {
                many += (taken >>> i & 1L) == 0L ? 1 : 0;
            }
            return many;
        }
    }
}
