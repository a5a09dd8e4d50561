/** Terms 1 without the law, GUESTS FROM A ROW, promises 1 to 7. */
final class RoomsBoundaries {
    private static final int ONE = 0, OTHER = 1, CHANGES = 2, TALK = 3, MUST = 4, HOST = 5, LEAVES = 6, WAY = 7;

    private RoomsBoundaries() {
    }

    static void addTo(Boundaries b) {
        b.add("empty rooms", "`GoodbyeAll()`: Empty rooms.", RoomsBoundaries::emptyRooms);
        b.add("rooms 0 to 4", "ROOMS 0 .. 4 in a row (0 the hall, with the door)", RoomsBoundaries::rooms);
        b.add("ways", "WAY minutes (1 .. 9 for each two beside each other; 1 at first)", RoomsBoundaries::ways);
        b.add("guests 0 to 9", "GUESTS 0 .. 9, as they come", RoomsBoundaries::guestNumbers);
        b.add("changes", "ROOM from minute 0 on, ROOM from the minute it CHANGES on (0 .. 99; 0 to 4 each)",
            RoomsBoundaries::changes);
        b.add("talk", "TALK (0 .. 9; 2 at first)", RoomsBoundaries::talk);
        b.add("must", "MUST (0, 1; 1 at first: one has to say goodbye to it)", RoomsBoundaries::must);
        b.add("host", "HOST (0, 1; 0 at first: last of all)", RoomsBoundaries::host);
        b.add("leaves", "LEAVES when so many others have left (1 .. 11; 11: never; 11 at first)",
            RoomsBoundaries::leaves);
        b.add("guest: ab", "A GUEST (ab: 10 times the first ROOM and the other one): its number. BAD",
            RoomsBoundaries::guestRooms);
        b.add("guest: full", "its number. BAD, FULL: 10.", RoomsBoundaries::guestFull);
        b.add("guests: n", "from place i on, n (1 .. 10) of them", RoomsBoundaries::guestsMany);
        b.add("guests: i below 0", "how many came (0 with i below 0)", RoomsBoundaries::guestsBelow);
        b.add("guests: no row of bytes", "BAD, -12 (no ROW of bytes; a SHELF that holds nothing is missing)",
            RoomsBoundaries::guestsOfOtherKind);
        b.add("guests: the row is missing", "it ends where the row is missing", RoomsBoundaries::guestsMissing);
        b.add("guests: the row ends", "the row is missing, ends (within a three, too)", RoomsBoundaries::guestsEnd);
        b.add("guests: not as it may be", "one is not as it may be", RoomsBoundaries::guestsAsTheyMayBe);
        b.add("guests: full", "or GUESTS are FULL: those ahead came", RoomsBoundaries::guestsFull);
        b.add("guests: threes", "by threes both ROOMS, TALK (CHANGES 50): n of them", RoomsBoundaries::guestsThrees);
        b.add("mend: what", "WAY behind ROOM n (7; 0 .. 3) becomes v: what it was. BAD.", RoomsBoundaries::mendWhat);
        b.add("mend: both rooms", "The first ROOM (what 0), the other one (1)", RoomsBoundaries::mendRooms);
        b.add("of", "As of mend() (0 to 7). BAD.", RoomsBoundaries::of);
        b.add("at", "In which ROOM a GUEST is in a minute (0 .. 999). BAD.", RoomsBoundaries::at);
        b.add("in", "Who is in a ROOM in a minute (0 .. 999), as bits. BAD.", RoomsBoundaries::in);
    }

    private static void emptyRooms() {
        GoodbyeAll x = new GoodbyeAll();
        for (int room = 0; room < 5; room++) {
            Due.be("in room " + room, x.in(room, 0), 0);
            Due.be("in room " + room + " at last", x.in(room, 999), 0);
        }
        Due.be("nobody", x.count(0), 0);
        Due.be("no guest 0", x.of(0, ONE), -1);
    }

    private static void rooms() {
        GoodbyeAll x = Boundaries.guestsIn(0, 4);
        Due.be("the least", x.in(0, 0), 1);
        Due.be("the greatest", x.in(4, 0), 2);
        Due.be("go to the greatest", x.go(4), 4);
        Due.be("not by the door", x.leave(), -5);
        Due.be("go to the least", x.go(0), 8);
        Due.be("by the door", x.leave(), 0);
        for (int room : Boundaries.outside(0, 4)) {
            Due.be("go(" + room + ")", x.go(room), -1);
        }
    }

    private static void ways() {
        GoodbyeAll x = new GoodbyeAll();
        int[] minutes = {2, 9, 5, 1};
        for (int way = 0; way < 4; way++) {
            Due.be("at first", x.of(way, WAY), 1);
            for (int v : Boundaries.outside(1, 9)) {
                Due.be("mend(" + way + ", 7, " + v + ")", x.mend(way, WAY, v), -1);
            }
            Due.be("the greatest", x.mend(way, WAY, 9), 1);
            Due.be("the least", x.mend(way, WAY, 1), 9);
            x.mend(way, WAY, minutes[way]);
        }
        Due.be("from 0 to 1", x.go(1), 2);
        Due.be("from 1 to 2", x.go(2), 11);
        Due.be("from 2 to 3", x.go(3), 16);
        Due.be("from 3 to 4", x.go(4), 17);
        Due.be("back through all", x.go(0), 34);
        Due.be("no way at all", x.go(0), 34);
    }

    private static void guestNumbers() {
        GoodbyeAll x = new GoodbyeAll();
        for (int g = 0; g < 10; g++) {
            Due.be("ahead of guest " + g, x.of(g, TALK), -1);
            Due.be("guest", x.guest(0, 0), g);
            Due.be("how many", x.count(0), g + 1);
        }
        Due.be("guest 9", x.of(9, TALK), 2);
        Due.be("all in the hall", x.in(0, 0), 1023);
        Due.be("no guest 10", x.of(10, TALK), -1);
    }

    private static void changes() {
        GoodbyeAll x = new GoodbyeAll();
        for (int minute : Boundaries.outside(0, 99)) {
            Due.be("guest(34, " + minute + ")", x.guest(34, minute), -1);
        }
        x.guest(34, 0);
        x.guest(34, 99);
        x.guest(40, 1);
        Due.be("from minute 0 on", x.at(0, 0), 4);
        Due.be("ahead of minute 99", x.at(1, 98), 3);
        Due.be("in minute 99", x.at(1, 99), 4);
        Due.be("ahead of minute 1", x.at(2, 0), 4);
        Due.be("in minute 1", x.at(2, 1), 0);
        Due.be("in room 4 at 0", x.in(4, 0), 5);
        Due.be("in room 4 at 1", x.in(4, 1), 1);
        for (int minute : Boundaries.outside(0, 99)) {
            Due.be("mend(0, 2, " + minute + ")", x.mend(0, CHANGES, minute), -1);
        }
        Due.be("the greatest", x.mend(0, CHANGES, 99), 0);
        Due.be("ahead of it", x.at(0, 98), 3);
        Due.be("the least", x.mend(1, CHANGES, 0), 99);
        Due.be("from it on", x.at(1, 0), 4);
    }

    /** A fact of guest 0: what it is at first, and which numbers it takes. */
    private static GoodbyeAll held(int what, int atFirst, int least, int greatest) {
        GoodbyeAll x = Boundaries.guestsIn(0);
        Due.be("at first", x.of(0, what), atFirst);
        for (int v : Boundaries.outside(least, greatest)) {
            Due.be("mend(0, " + what + ", " + v + ")", x.mend(0, what, v), -1);
        }
        Due.be("the least", x.mend(0, what, least), atFirst);
        Due.be("the greatest", x.mend(0, what, greatest), least);
        Due.be("it stands", x.of(0, what), greatest);
        return x;
    }

    private static void talk() {
        GoodbyeAll x = held(TALK, 2, 0, 9);
        x.goodbye();
        Due.be("the greatest counts", x.led(0), 10);
    }

    private static void must() {
        GoodbyeAll x = held(MUST, 1, 0, 1);
        Due.be("it must be told", x.count(1), 1);
        x.mend(0, MUST, 0);
        Due.be("none must", x.count(1), 0);
        Due.be("none is told", x.goodbye(), 0);
        x.mend(0, MUST, 1);
        Due.be("now it is", x.goodbye(), 1);
    }

    private static void host() {
        GoodbyeAll x = held(HOST, 0, 0, 1);
        x.guest(11, 0);
        Due.be("the host is last", x.goodbye(), 0);
        x.go(1);
        Due.be("the other one ahead", x.goodbye(), 2);
        x.go(0);
        Due.be("then the host", x.goodbye(), 1);
    }

    private static void leaves() {
        held(LEAVES, 11, 1, 11);
        GoodbyeAll x = Boundaries.inTheHall(10);
        for (int g = 1; g < 9; g++) {
            x.mend(g, LEAVES, g);
        }
        Due.be("never, though all others have left", x.end(0, 1), 512);
        x.mend(9, LEAVES, 10);
        Due.be("as ten others would have left", x.end(0, 1), 512);
        x.mend(9, LEAVES, 9);
        Due.be("as nine others have left", x.end(0, 1), 0);
    }

    private static void guestRooms() {
        GoodbyeAll x = new GoodbyeAll();
        int[] bad = {-1, -10, -11, 5, 9, 15, 45, 50, 54, 55, 100, 144, Integer.MIN_VALUE, Integer.MAX_VALUE};
        for (int ab : bad) {
            Due.be("guest(" + ab + ", 0)", x.guest(ab, 0), -1);
        }
        Due.be("none came", x.count(0), 0);
        int[] right = {0, 4, 40, 44, 13};
        for (int g = 0; g < right.length; g++) {
            Due.be("guest(" + right[g] + ", 7)", x.guest(right[g], 7), g);
            Due.be("the first", x.at(g, 6), right[g] / 10);
            Due.be("the other", x.at(g, 7), right[g] % 10);
        }
    }

    private static void guestFull() {
        GoodbyeAll x = Boundaries.inTheHall(9);
        Due.be("the tenth", x.guest(44, 99), 9);
        Due.be("the eleventh", x.guest(11, 0), -3);
        Due.be("none came", x.count(0), 10);
        Due.be("nor is it anywhere", x.in(1, 0), 0);
    }

    private static void guestsMany() {
        GoodbyeAll x = new GoodbyeAll();
        x.row(0, 0, 60);
        for (int n : Boundaries.outside(1, 10)) {
            Due.be("guests(0, 0, " + n + ")", x.guests(0, 0, n), -1);
        }
        Due.be("none came", x.count(0), 0);
        Due.be("the least", x.guests(0, 0, 1), 1);
        GoodbyeAll y = new GoodbyeAll();
        y.row(0, 0, 60);
        Due.be("the greatest", y.guests(0, 0, 10), 10);
        for (int shelf : Boundaries.outside(0, 5)) {
            Due.be("guests(" + shelf + ", 0, 1)", x.guests(shelf, 0, 1), -1);
        }
    }

    private static void guestsBelow() {
        GoodbyeAll x = new GoodbyeAll();
        x.row(0, 0, 60);
        int[] below = {-1, -2, -3, -60, Integer.MIN_VALUE, Integer.MIN_VALUE + 1};
        for (int i : below) {
            Due.be("from " + i, x.guests(0, i, 10), 0);
        }
        Due.be("none came", x.count(0), 0);
        Due.be("from 0", x.guests(0, 0, 1), 1);
    }

    private static void guestsOfOtherKind() {
        GoodbyeAll x = new GoodbyeAll();
        for (int sort = 1; sort < 5; sort++) {
            x.row(sort, sort, 9);
            Due.be("a row of sort " + sort, x.guests(sort, 0, 1), -12);
        }
        x.body(0);
        x.keep(5, 0);
        Due.be("a body", x.guests(5, 0, 1), -12);
        Due.be("nothing is missing, no other kind", x.guests(0, 0, 1), 0);
    }

    private static void guestsMissing() {
        GoodbyeAll x = new GoodbyeAll();
        Due.be("nothing there", x.guests(0, 0, 1), 0);
        x.row(0, 0, 60);
        x.keep(0, -1);
        Due.be("nothing there any more", x.guests(0, 3, 10), 0);
        Due.be("none came", x.count(0), 0);
    }

    private static void guestsEnd() {
        GoodbyeAll x = new GoodbyeAll();
        x.row(0, 0, 0);
        Due.be("an empty row", x.guests(0, 0, 1), 0);
        x.row(0, 0, 1);
        Due.be("within a three, behind one", x.guests(0, 0, 1), 0);
        x.row(0, 0, 2);
        Due.be("within a three, behind two", x.guests(0, 0, 1), 0);
        x.row(0, 0, 6);
        int[] late = {4, 5, 6, 7, 60, 61, Integer.MAX_VALUE - 1, Integer.MAX_VALUE};
        for (int i : late) {
            Due.be("from " + i, x.guests(0, i, 10), 0);
        }
        Due.be("the last three", x.guests(0, 3, 10), 1);
        Due.be("two threes", x.guests(0, 0, 10), 2);
        x.row(0, 0, 8);
        Due.be("two threes and two bytes", x.guests(0, 0, 10), 2);
        Due.be("those came", x.count(0), 5);
    }

    private static void guestsAsTheyMayBe() {
        GoodbyeAll x = new GoodbyeAll();
        int[][] bad = {{5, 0, 0}, {-1, 0, 0}, {0, 5, 0}, {0, -1, 0}, {0, 0, 10}, {0, 0, -1}, {127, 127, 127},
            {-128, 0, 0}};
        for (int[] three : bad) {
            Due.bytes(x, 0, three);
            Due.be("one that may not be", x.guests(0, 0, 1), 0);
        }
        Due.bytes(x, 0, 0, 0, 0, 5, 0, 0, 4, 4, 9);
        Due.be("none behind it comes", x.guests(0, 0, 3), 1);
        Due.be("the greatest of all may be", x.guests(0, 6, 1), 1);
        Due.be("those came", x.count(0), 2);
    }

    private static void guestsFull() {
        GoodbyeAll x = Boundaries.inTheHall(8);
        x.row(0, 0, 60);
        Due.be("two more", x.guests(0, 0, 10), 2);
        Due.be("none any more", x.guests(0, 0, 1), 0);
        Due.be("those ahead came", x.count(0), 10);
    }

    private static void guestsThrees() {
        GoodbyeAll x = new GoodbyeAll();
        Due.bytes(x, 0, 3, 1, 2, 0, 4, 4, 4, 0, 9);
        Due.be("no more than n", x.guests(0, 0, 2), 2);
        Due.be("in its first room till 49", x.at(1, 49), 0);
        Due.be("in its other room from 50 on", x.at(1, 50), 4);
        Due.be("from a place within", x.guests(0, 1, 2), 2);
        int[][] due = {{3, 1, 50, 2}, {0, 4, 50, 4}, {1, 2, 50, 0}, {4, 4, 50, 4}};
        for (int g = 0; g < due.length; g++) {
            for (int what = ONE; what <= TALK; what++) {
                Due.be("of(" + g + ", " + what + ")", x.of(g, what), due[g][what]);
            }
            Due.be("MUST of " + g, x.of(g, MUST), 1);
            Due.be("LEAVES of " + g, x.of(g, LEAVES), 11);
        }
    }

    private static void mendWhat() {
        GoodbyeAll x = Boundaries.inTheHall(3);
        for (int what : Boundaries.outside(0, 7)) {
            Due.be("mend(0, " + what + ", 1)", x.mend(0, what, 1), -1);
        }
        for (int what = 0; what < 7; what++) {
            for (int guest : Boundaries.outside(0, 2)) {
                Due.be("mend(" + guest + ", " + what + ", 1)", x.mend(guest, what, 1), -1);
            }
        }
        for (int way : Boundaries.outside(0, 3)) {
            Due.be("mend(" + way + ", 7, 1)", x.mend(way, WAY, 1), -1);
        }
        int[] atFirst = {0, 0, 0, 2, 1, 0, 11};
        int[] other = {4, 3, 99, 7, 0, 1, 5};
        for (int what = 0; what < 7; what++) {
            Due.be("the last guest's " + what, x.mend(2, what, other[what]), atFirst[what]);
            Due.be("it stands", x.of(2, what), other[what]);
            Due.be("what it was", x.mend(2, what, atFirst[what]), other[what]);
        }
        Due.be("the last way", x.mend(3, WAY, 7), 1);
        Due.be("what it was", x.mend(3, WAY, 8), 7);
        Due.be("the same number", x.mend(3, WAY, 8), 8);
        Due.be("ways without guests", new GoodbyeAll().mend(0, WAY, 2), 1);
    }

    private static void mendRooms() {
        for (int what = ONE; what <= OTHER; what++) {
            GoodbyeAll x = new GoodbyeAll();
            x.guest(22, 50);
            for (int v : Boundaries.outside(0, 4)) {
                Due.be("mend(0, " + what + ", " + v + ")", x.mend(0, what, v), -1);
            }
            int minute = what == ONE ? 49 : 50;
            Due.be("the greatest", x.mend(0, what, 4), 2);
            Due.be("there it is", x.in(4, minute), 1);
            Due.be("the least", x.mend(0, what, 0), 4);
            Due.be("there it is", x.in(0, minute), 1);
            Due.be("it is there no more", x.in(4, minute), 0);
            Due.be("else as it was", x.in(2, 99 - minute), 1);
        }
    }

    private static void of() {
        GoodbyeAll x = Boundaries.inTheHall(2);
        for (int what : Boundaries.outside(0, 7)) {
            Due.be("of(0, " + what + ")", x.of(0, what), -1);
        }
        int[] atFirst = {0, 0, 0, 2, 1, 0, 11};
        for (int what = 0; what < 7; what++) {
            Due.be("of(1, " + what + ")", x.of(1, what), atFirst[what]);
            for (int guest : Boundaries.outside(0, 1)) {
                Due.be("of(" + guest + ", " + what + ")", x.of(guest, what), -1);
            }
        }
        for (int way : Boundaries.outside(0, 3)) {
            Due.be("of(" + way + ", 7)", x.of(way, WAY), -1);
        }
        Due.be("the last way", x.of(3, WAY), 1);
    }

    private static void at() {
        GoodbyeAll x = new GoodbyeAll();
        Due.be("nobody", x.at(0, 0), -1);
        x.guest(14, 20);
        for (int minute : Boundaries.outside(0, 999)) {
            Due.be("at(0, " + minute + ")", x.at(0, minute), -1);
        }
        for (int guest : Boundaries.outside(0, 0)) {
            Due.be("at(" + guest + ", 0)", x.at(guest, 0), -1);
        }
        Due.be("the first minute", x.at(0, 0), 1);
        Due.be("the last minute", x.at(0, 999), 4);
    }

    private static void in() {
        GoodbyeAll x = new GoodbyeAll();
        x.guest(14, 20);
        x.guest(11, 0);
        for (int minute : Boundaries.outside(0, 999)) {
            Due.be("in(1, " + minute + ")", x.in(1, minute), -1);
        }
        for (int room : Boundaries.outside(0, 4)) {
            Due.be("in(" + room + ", 0)", x.in(room, 0), -1);
        }
        Due.be("the first minute", x.in(1, 0), 3);
        Due.be("as it changes", x.in(1, 20), 2);
        Due.be("the last minute", x.in(1, 999), 2);
        Due.be("the last minute there", x.in(4, 999), 1);
        Due.be("nobody", x.in(2, 999), 0);
    }
}
