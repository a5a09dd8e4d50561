/** Terms 4, in deed, images, what is undone and done again; promises 23 to 31. */
final class DeedBoundaries {
    private static final int CHANGES = 2, TALK = 3, MUST = 4, WAY = 7;

    private DeedBoundaries() {
    }

    static void addTo(Boundaries b) {
        b.add("in deed: at first", "one is in a ROOM (the hall at first) at a minute (0 at first)",
            DeedBoundaries::atFirst);
        b.add("go", "GO to a ROOM: the minute. BAD.", DeedBoundaries::go);
        b.add("goodbye", "GOODBYE: who is told by it, as bits.", DeedBoundaries::goodbye);
        b.add("stay", "WAIT n minutes (1 .. 99): the minute. BAD.", DeedBoundaries::stay);
        b.add("leave: by the hall", "LEAVE (by the hall: STATE elsewhere): whether it was DONE",
            DeedBoundaries::byTheHall);
        b.add("leave: a new evening", "a new evening begins: minute 0, the hall, nobody told.",
            DeedBoundaries::newEvening);
        b.add("leave: answer", "LEAVE: 1 DONE, 0. STATE: not in the hall.", DeedBoundaries::leave);
        b.add("led: what", "evenings DONE (4), evenings (5). BAD.", DeedBoundaries::led);
        b.add("led: goodbyes", "GOODBYES (3; those by which nobody is told do not count)", DeedBoundaries::goodbyes);
        b.add("image", "AN IMAGE keeps what LED tells.", DeedBoundaries::image);
        b.add("image: the minute", "AN IMAGE is kept: the minute.", DeedBoundaries::imageMinute);
        b.add("back: none", "It is laid back: the minute. STATE: there is none.", DeedBoundaries::back);
        b.add("changes: each", "CHANGES (WAYS; ROOMS, CHANGES, TALK, MUST, HOST, LEAVES of GUESTS;",
            DeedBoundaries::eachChange);
        b.add("changes: the same number", "telling the same number is none", DeedBoundaries::sameNumber);
        b.add("changes: the latest first", "can be UNDONE, the latest first", DeedBoundaries::latestFirst);
        b.add("changes: none came behind", "DONE AGAIN (as long as no other came behind)",
            DeedBoundaries::noneBehind);
        b.add("changes: 40", "40 at most are kept", DeedBoundaries::forty);
        b.add("changes: deeds are none", "deeds are none.", DeedBoundaries::deeds);
        b.add("undo: none", "UNDONE: how many may still be. STATE: none.", DeedBoundaries::undo);
        b.add("redo: none", "DONE AGAIN: how many may still be. STATE: none.", DeedBoundaries::redo);
    }

    private static void is(GoodbyeAll x, String when, int... due) {
        for (int what = 0; what < due.length; what++) {
            Due.be(when + ", led(" + what + ")", x.led(what), due[what]);
        }
    }

    private static void atFirst() {
        GoodbyeAll x = new GoodbyeAll();
        is(x, "at first", 0, 0, 0, 0, 0, 0);
        x.guest(4, 1);
        Due.be("the hall in minute 0", x.goodbye(), 1);
    }

    private static void go() {
        GoodbyeAll x = new GoodbyeAll();
        for (int room : Boundaries.outside(0, 4)) {
            Due.be("go(" + room + ")", x.go(room), -1);
        }
        is(x, "one stays", 0, 0);
        Due.be("where one is", x.go(0), 0);
        Due.be("the farthest", x.go(4), 4);
        Due.be("where one is", x.go(4), 4);
        Due.be("back", x.go(0), 8);
    }

    private static void goodbye() {
        GoodbyeAll x = Boundaries.inTheHall(10);
        Due.be("all ten", x.goodbye(), 1023);
        Due.be("none any more", x.goodbye(), 0);
        Due.be("nobody at all", new GoodbyeAll().goodbye(), 0);
    }

    private static void stay() {
        GoodbyeAll x = new GoodbyeAll();
        for (int n : Boundaries.outside(1, 99)) {
            Due.be("stay(" + n + ")", x.stay(n), -1);
        }
        is(x, "no minute", 0);
        Due.be("the least", x.stay(1), 1);
        Due.be("the greatest", x.stay(99), 100);
        Due.be("beyond minute 99, too", x.stay(99), 199);
    }

    private static void byTheHall() {
        GoodbyeAll x = new GoodbyeAll();
        for (int room = 1; room < 5; room++) {
            x.go(room);
            Due.be("from room " + room, x.leave(), -5);
        }
        is(x, "one is still there", 4, 4, 0, 0, 0, 0);
        x.go(0);
        Due.be("by the hall", x.leave(), 1);
        is(x, "it counts", 0, 0, 0, 0, 1, 1);
    }

    private static void newEvening() {
        GoodbyeAll x = Boundaries.inTheHall(2);
        x.goodbye();
        x.stay(5);
        x.leave();
        is(x, "a new evening", 0, 0, 0, 1, 1, 1);
        Due.be("all must be told once more", x.goodbye(), 3);
        Due.be("from minute 0 on", x.led(0), 4);
    }

    private static void leave() {
        GoodbyeAll x = Boundaries.inTheHall(2);
        Due.be("none is told", x.leave(), 0);
        x.mend(0, MUST, 0);
        Due.be("one is still to be told", x.leave(), 0);
        x.goodbye();
        Due.be("all that must are told", x.leave(), 1);
        x.mend(1, MUST, 0);
        Due.be("none must", x.leave(), 1);
        is(x, "two of four", 0, 0, 0, 1, 2, 4);
        x.go(1);
        Due.be("not in the hall", x.leave(), -5);
        Due.be("nobody must be told", new GoodbyeAll().leave(), 1);
    }

    private static void led() {
        GoodbyeAll x = Boundaries.guestsIn(3);
        for (int what : Boundaries.outside(0, 5)) {
            Due.be("led(" + what + ")", x.led(what), -1);
        }
        x.leave();
        x.go(3);
        x.goodbye();
        is(x, "each of its own", 6, 3, 1, 1, 0, 1);
    }

    private static void goodbyes() {
        GoodbyeAll x = Boundaries.guestsIn(0, 1);
        x.goodbye();
        Due.be("one", x.led(3), 1);
        x.goodbye();
        Due.be("nobody is told", x.led(3), 1);
        x.go(1);
        x.goodbye();
        Due.be("two", x.led(3), 2);
        x.go(0);
        x.leave();
        Due.be("a new evening", x.led(3), 2);
        x.goodbye();
        Due.be("three", x.led(3), 3);
    }

    private static void image() {
        GoodbyeAll x = Boundaries.guestsIn(0, 1);
        x.leave();
        x.goodbye();
        x.leave();
        x.goodbye();
        x.go(1);
        is(x, "by then", 4, 1, 1, 2, 0, 2);
        x.image();
        x.goodbye();
        x.go(0);
        x.leave();
        x.leave();
        is(x, "later on", 0, 0, 0, 3, 1, 4);
        x.back();
        is(x, "laid back", 4, 1, 1, 2, 0, 2);
        Due.be("who was told is told", x.goodbye(), 2);
    }

    private static void imageMinute() {
        GoodbyeAll x = new GoodbyeAll();
        Due.be("minute 0", x.image(), 0);
        x.stay(99);
        x.stay(99);
        Due.be("minute 198", x.image(), 198);
        x.stay(1);
        Due.be("the latest image", x.back(), 198);
        Due.be("it tells the minute", x.led(0), 198);
    }

    private static void back() {
        GoodbyeAll x = new GoodbyeAll();
        Due.be("none", x.back(), -5);
        x.stay(7);
        Due.be("still none", x.back(), -5);
        is(x, "nothing is laid back", 7);
        Due.be("image", x.image(), 7);
        Due.be("at once", x.back(), 7);
        x.leave();
        Due.be("in another evening", x.back(), 7);
    }

    private static void eachChange() {
        int[] atFirst = {0, 0, 0, 2, 1, 0, 11, 1};
        int[] other = {4, 3, 99, 9, 0, 1, 1, 9};
        for (int what = 0; what < 8; what++) {
            GoodbyeAll x = Boundaries.inTheHall(1);
            x.mend(0, what, other[what]);
            Due.be("one change: " + what, x.count(3), 1);
            Due.be("undo", x.undo(), 0);
            Due.be("it is undone", x.of(0, what), atFirst[what]);
            Due.be("in the hall", x.in(0, 0), 1);
            Due.be("MUST", x.count(1), 1);
            Due.be("redo", x.redo(), 0);
            Due.be("it is done again", x.of(0, what), other[what]);
            Due.be("MUST again", x.count(1), what == MUST ? 0 : 1);
        }
    }

    private static void sameNumber() {
        GoodbyeAll x = Boundaries.inTheHall(1);
        int[] atFirst = {0, 0, 0, 2, 1, 0, 11, 1};
        for (int what = 0; what < 8; what++) {
            Due.be("mend(0, " + what + ", the same)", x.mend(0, what, atFirst[what]), atFirst[what]);
        }
        Due.be("none may be undone", x.undo(), -5);
        x.mend(0, TALK, 5);
        x.mend(0, TALK, 5);
        Due.be("one change", x.count(3), 1);
        x.undo();
        x.mend(0, TALK, 2);
        x.mend(0, WAY, 1);
        Due.be("it can still be done again", x.redo(), 0);
        Due.be("it is", x.of(0, TALK), 5);
    }

    private static void latestFirst() {
        GoodbyeAll x = Boundaries.inTheHall(1);
        x.mend(0, TALK, 3);
        x.mend(0, TALK, 4);
        x.mend(3, WAY, 9);
        x.mend(0, TALK, 5);
        int[][] due = {{4, 9}, {4, 1}, {3, 1}, {2, 1}};
        for (int i = 0; i < due.length; i++) {
            Due.be("undo", x.undo(), 3 - i);
            Due.be("TALK", x.of(0, TALK), due[i][0]);
            Due.be("WAY", x.of(3, WAY), due[i][1]);
        }
        for (int i = 2; i >= 0; i--) {
            Due.be("redo", x.redo(), i + 1);
            Due.be("TALK again", x.of(0, TALK), due[i][0]);
            Due.be("WAY again", x.of(3, WAY), due[i][1]);
        }
        Due.be("the last one again", x.redo(), 0);
        Due.be("TALK at last", x.of(0, TALK), 5);
    }

    private static void noneBehind() {
        GoodbyeAll x = Boundaries.inTheHall(1);
        x.mend(0, TALK, 3);
        x.mend(0, TALK, 4);
        x.undo();
        x.undo();
        Due.be("the first one again", x.redo(), 1);
        x.mend(0, CHANGES, 7);
        Due.be("another one came", x.redo(), -5);
        Due.be("TALK stays", x.of(0, TALK), 3);
        Due.be("two may be undone", x.count(3), 2);
        Due.be("it is undone", x.undo(), 1);
        Due.be("and done again", x.redo(), 0);
        x.undo();
        x.undo();
        x.mend(0, TALK, 9);
        Due.be("one came behind two undone ones", x.redo(), -5);
        Due.be("it stands", x.of(0, TALK), 9);
    }

    private static void forty() {
        GoodbyeAll x = Boundaries.inTheHall(1);
        for (int i = 1; i <= 40; i++) {
            x.mend(0, CHANGES, i);
            Due.be("kept", x.count(3), i);
        }
        x.mend(0, CHANGES, 41);
        Due.be("the 41st: 40 are kept", x.count(3), 40);
        x.mend(0, CHANGES, 42);
        Due.be("the 42nd: 40 are kept", x.count(3), 40);
        for (int left = 39; left >= 0; left--) {
            Due.be("undo", x.undo(), left);
            Due.be("CHANGES", x.of(0, CHANGES), left + 2);
        }
        Due.be("the first two can't be", x.undo(), -5);
        for (int left = 39; left >= 0; left--) {
            Due.be("redo", x.redo(), left);
        }
        Due.be("all again", x.of(0, CHANGES), 42);
        Due.be("no more", x.redo(), -5);
    }

    private static void deeds() {
        GoodbyeAll x = Boundaries.inTheHall(1);
        x.mend(0, TALK, 7);
        x.undo();
        x.go(1);
        x.stay(1);
        x.go(0);
        x.goodbye();
        x.image();
        x.leave();
        x.back();
        x.guest(0, 0);
        Due.be("none of those may be undone", x.count(3), 0);
        Due.be("the change may be done again", x.redo(), 0);
        Due.be("it is undone", x.undo(), 0);
        Due.be("the guest stays", x.count(0), 2);
        is(x, "the deeds stay", 6, 0, 1, 1, 0, 0);
    }

    private static void undo() {
        GoodbyeAll x = Boundaries.inTheHall(1);
        Due.be("none", x.undo(), -5);
        x.mend(0, TALK, 7);
        x.mend(0, TALK, 8);
        Due.be("one more", x.undo(), 1);
        Due.be("no more", x.undo(), 0);
        Due.be("none", x.undo(), -5);
        Due.be("none once more", x.undo(), -5);
        Due.be("TALK", x.of(0, TALK), 2);
    }

    private static void redo() {
        GoodbyeAll x = Boundaries.inTheHall(1);
        Due.be("none", x.redo(), -5);
        x.mend(0, TALK, 7);
        Due.be("none is undone", x.redo(), -5);
        x.mend(0, TALK, 8);
        x.undo();
        x.undo();
        Due.be("one more", x.redo(), 1);
        Due.be("no more", x.redo(), 0);
        Due.be("none", x.redo(), -5);
        Due.be("TALK", x.of(0, TALK), 8);
    }
}
