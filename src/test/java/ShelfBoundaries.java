/** Terms 5, bodies and shelves; promises 32 to 41. */
final class ShelfBoundaries {
    private static final long NONE = Long.MIN_VALUE;
    private static final int[] ABOVE = {-1, 0, 0, 2, 1, 3, 0, 6};

    private ShelfBoundaries() {
    }

    static void addTo(Boundaries b) {
        b.add("bodies 0 to 49", "BODIES 0 .. 49 are kept by call", ShelfBoundaries::bodies);
        b.add("body: kind", "A BODY of a KIND (0 .. 7) is kept: its number. BAD, FULL.", ShelfBoundaries::kinds);
        b.add("act: none such", "An ACT (0 .. 3) of a BODY with x. 0, and no TRACE then: no such BODY, ACT.",
            ShelfBoundaries::noSuchAct);
        b.add("act: an int that wraps", "ACTS with x (an int that wraps)", ShelfBoundaries::actsWrap);
        b.add("act: n", "n its number", ShelfBoundaries::ownNumber);
        b.add("act: from above", "the body of its own KIND, or of the next KIND above that has one; super: from the "
            + "KIND above the body's on.", ShelfBoundaries::fromAbove);
        b.add("trace: the latest", "numbers of the bodies that ran in the latest act(), as they began; the first 24 "
            + "are kept.", ShelfBoundaries::latestTrace);
        b.add("trace: i", "THE TRACE's i-th body. BAD.", ShelfBoundaries::trace);
        b.add("shelves 0 to 5", "SHELVES 0 .. 5 each hold nothing (at first), a BODY, or a ROW",
            ShelfBoundaries::shelves);
        b.add("row: 0 to 60", "of 0 .. 60 elements, 0 at first (false)", ShelfBoundaries::sixty);
        b.add("put: lowest bits", "what is put in keeps its lowest bits", ShelfBoundaries::lowestBits);
        b.add("put: a boolean", "(a boolean: whether it is not 0; 1 or 0)", ShelfBoundaries::booleans);
        b.add("keep", "A SHELF holds nothing (body -1), or a BODY: 1. BAD.", ShelfBoundaries::keep);
        b.add("row: refusals", "A SHELF holds a ROW: 1. BAD (sort, n above 60); -14.", ShelfBoundaries::rowRefusals);
        b.add("put: refusals", "Element i of a ROW becomes v: 1. BAD, -11, -12, -13.", ShelfBoundaries::putRefusals);
        b.add("element: refusals", "Element i of a ROW; Long.MIN_VALUE: BAD, -11 to -13.",
            ShelfBoundaries::elementRefusals);
        b.add("shift: as they were", "come to another one (or the same) from j on, as they all were before: n.",
            ShelfBoundaries::shiftAsTheyWere);
        b.add("shift: nothing there", "BAD, -11 (either)", ShelfBoundaries::shiftNothing);
        b.add("shift: other kinds", "-12 (no ROWS, or of unlike sorts)", ShelfBoundaries::shiftKinds);
        b.add("shift: places", "-13 (n below 0, too)", ShelfBoundaries::shiftPlaces);
        b.add("taken", "taken for a BODY of KIND k (0 .. 7), or under it: its KIND. BAD, -11, -12.",
            ShelfBoundaries::taken);
        b.add("count: what", "5 bodies that ran in the latest act() (all, kept or not). BAD.", ShelfBoundaries::count);
        b.add("count: each", "0 GUESTS, 1 that MUST be told, 2 bytes on THE TAPE, 3 changes that may be UNDONE, 4 "
            + "BODIES", ShelfBoundaries::counts);
    }

    private static GoodbyeAll withBodies(int... kinds) {
        GoodbyeAll x = new GoodbyeAll();
        for (int kind : kinds) {
            x.body(kind);
        }
        return x;
    }

    private static GoodbyeAll oneOfEach() {
        return withBodies(0, 1, 2, 3, 4, 5, 6, 7);
    }

    private static void bodies() {
        GoodbyeAll x = new GoodbyeAll();
        for (int i = 0; i < 50; i++) {
            Due.be("ahead of body " + i, x.keep(0, i), -1);
            Due.be("body", x.body(7 - i % 8), i);
            Due.be("it can be kept", x.keep(0, i), 1);
        }
        Due.be("the 51st", x.body(0), -3);
        Due.be("fifty", x.count(4), 50);
        Due.be("no body 50", x.keep(0, 50), -1);
        Due.be("body 49 is what it was", x.taken(0, 0), 7 - 49 % 8);
        Due.be("its act", x.act(49, 2, 0), 49);
    }

    private static void kinds() {
        GoodbyeAll x = new GoodbyeAll();
        for (int kind : Boundaries.outside(0, 7)) {
            Due.be("body(" + kind + ")", x.body(kind), -1);
        }
        Due.be("none came", x.count(4), 0);
        Due.be("the least", x.body(0), 0);
        Due.be("the greatest", x.body(7), 1);
        x.keep(0, 1);
        Due.be("it is of that KIND", x.taken(0, 7), 7);
    }

    private static void noSuchAct() {
        GoodbyeAll x = withBodies(0, 1);
        int[][] none = {{2, 0}, {-1, 0}, {50, 0}, {Integer.MAX_VALUE, 0}, {Integer.MIN_VALUE, 0}, {1, 4}, {1, -1},
            {1, Integer.MAX_VALUE}, {1, Integer.MIN_VALUE}};
        for (int[] call : none) {
            Due.be("an act", x.act(1, 0, 7), 7 + 1 + 3);
            Due.be("two ran", x.count(5), 2);
            Due.be("act " + call[1] + " of " + call[0], x.act(call[0], call[1], 7), 0);
            Due.be("none ran", x.count(5), 0);
            Due.be("no TRACE then", x.trace(0), -1);
            Due.be("nor a second of it", x.trace(1), -1);
        }
        Due.be("no body at all", new GoodbyeAll().act(0, 0, 0), 0);
    }

    private static void actsWrap() {
        GoodbyeAll x = oneOfEach();
        int most = Integer.MAX_VALUE;
        int least = Integer.MIN_VALUE;
        Due.be("x + n beyond the greatest", x.act(6, 0, most), (most + 6) * 2);
        Due.be("x + n of BEGUN", x.act(1, 0, most), least + 3);
        Due.be("twice the greatest", x.act(0, 1, most), -2);
        Due.be("twice the least", x.act(0, 1, least), 0);
        Due.be("the least, turned over", x.act(2, 1, (1 << 30) - 2), least);
        Due.be("x + 1 beyond the greatest", x.act(3, 1, most), -2 * (least + 3));
        Due.be("times 3", x.act(3, 2, 1 << 30), 3 * (1 << 30 ^ 3));
        Due.be("less 1", x.act(7, 0, (1 << 30) - 7), most);
        Due.be("stays less turns", x.act(0, 3, 1 << 30), most);
    }

    private static void ownNumber() {
        GoodbyeAll x = withBodies(0, 0, 0);
        for (int n = 0; n < 3; n++) {
            Due.be("says of " + n, x.act(n, 0, 10), 10 + n);
            Due.be("turns of " + n, x.act(n, 2, 8), 8 ^ n);
        }
        for (int n = 3; n < 50; n++) {
            x.body(0);
        }
        Due.be("says of 49", x.act(49, 0, -49), 0);
    }

    /** What runs, and in what order, by KIND and ACT: as the document's bodies call each other. */
    private static final int[][][] RUN = {
        {{1}, {10, 1}, {11}, {2, 10, 1, 11}},
        {{20, 1}, {10, 20, 1}, {11}, {2, 10, 20, 1, 11}},
        {{1}, {30, 10, 1}, {11}, {2, 30, 10, 1, 11}},
        {{1}, {41, 30, 10, 1}, {40, 11}, {2, 41, 30, 10, 1, 40, 11}},
        {{20, 1}, {10, 20, 1}, {11}, {50, 2, 10, 20, 1, 11}},
        {{1}, {41, 30, 10, 1}, {60, 40, 11, 1}, {61, 2, 41, 30, 10, 1, 60, 40, 11, 1}},
        {{70, 1}, {10, 70, 1}, {11}, {2, 10, 70, 1, 11}},
        {{81, 70, 1}, {80, 10, 81, 70, 1, 11}, {11}, {2, 80, 10, 81, 70, 1, 11, 11}}
    };

    private static void ran(GoodbyeAll x, String what, int... due) {
        Due.be(what + ": how many", x.count(5), due.length);
        for (int i = 0; i < due.length; i++) {
            Due.be(what + ": trace(" + i + ")", x.trace(i), due[i]);
        }
        Due.be(what + ": no more", x.trace(due.length), -1);
    }

    private static void fromAbove() {
        GoodbyeAll x = oneOfEach();
        for (int kind = 0; kind < 8; kind++) {
            for (int act = 0; act < 4; act++) {
                x.act(kind, act, 5);
                ran(x, "act " + act + " of KIND " + kind, RUN[kind][act]);
            }
        }
    }

    private static void latestTrace() {
        GoodbyeAll x = oneOfEach();
        ran(x, "ahead of every act");
        x.act(5, 3, 0);
        ran(x, "the longest", RUN[5][3]);
        x.act(0, 0, 0);
        ran(x, "the latest alone", RUN[0][0]);
        x.act(7, 3, 0);
        ran(x, "one that runs twice", RUN[7][3]);
    }

    private static void trace() {
        GoodbyeAll x = oneOfEach();
        int[] none = {-1, Integer.MIN_VALUE, 10, 11, 23, 24, 25, Integer.MAX_VALUE};
        for (int i : none) {
            Due.be("ahead of every act, trace(" + i + ")", x.trace(i), -1);
        }
        x.act(5, 3, 0);
        for (int i : none) {
            Due.be("trace(" + i + ")", x.trace(i), -1);
        }
        Due.be("the first", x.trace(0), 61);
        Due.be("the last", x.trace(9), 1);
    }

    private static void shelves() {
        GoodbyeAll x = withBodies(3);
        for (int shelf = 0; shelf < 6; shelf++) {
            Due.be("nothing at first", x.taken(shelf, 0), -11);
            Due.be("a ROW", x.row(shelf, 0, 1), 1);
            Due.be("which is no BODY", x.taken(shelf, 0), -12);
            Due.be("its element", x.element(shelf, 0), 0);
            Due.be("a BODY", x.keep(shelf, 0), 1);
            Due.be("its KIND", x.taken(shelf, 0), 3);
            Due.be("which is no ROW", x.put(shelf, 0, 1), -12);
            Due.be("nothing", x.keep(shelf, -1), 1);
            Due.be("is there", x.put(shelf, 0, 1), -11);
        }
        for (int shelf : Boundaries.outside(0, 5)) {
            Due.be("keep(" + shelf + ", -1)", x.keep(shelf, -1), -1);
            Due.be("row(" + shelf + ", 0, 1)", x.row(shelf, 0, 1), -1);
            Due.be("put(" + shelf + ", 0, 1)", x.put(shelf, 0, 1), -1);
            Due.be("element(" + shelf + ", 0)", x.element(shelf, 0), NONE);
            Due.be("taken(" + shelf + ", 0)", x.taken(shelf, 0), -1);
            Due.be("shift from " + shelf, x.shift(shelf, 0, 0, 0, 0), -1);
            Due.be("shift to " + shelf, x.shift(0, 0, shelf, 0, 0), -1);
        }
    }

    private static void sixty() {
        GoodbyeAll x = new GoodbyeAll();
        for (int sort = 0; sort < 5; sort++) {
            Due.be("no element", x.row(0, sort, 0), 1);
            Due.be("there is none", x.put(0, 0, 1), -13);
            Due.be("sixty-one", x.row(0, sort, 61), -1);
            Due.be("sixty elements", x.row(0, sort, 60), 1);
            for (int i = 0; i < 60; i += 59) {
                Due.be("0 at first", x.element(0, i), 0);
                Due.be("put", x.put(0, i, 1), 1);
            }
            Due.be("there is no 61st", x.put(0, 60, 1), -13);
            Due.be("a new row", x.row(0, sort, 60), 1);
            for (int i = 0; i < 60; i++) {
                Due.be("0 again", x.element(0, i), 0);
            }
        }
    }

    private static void lowestBits() {
        GoodbyeAll x = new GoodbyeAll();
        long[] values = {0, 1, -1, 127, 128, -128, -129, 255, 256, 32767, 32768, -32768, -32769, 65535, 65536,
            2147483647L, 2147483648L, -2147483648L, -2147483649L, 4294967295L, 4294967296L, Long.MAX_VALUE,
            Long.MIN_VALUE + 1};
        for (int sort = 0; sort < 4; sort++) {
            x.row(sort, sort, 3);
            for (long v : values) {
                long[] due = {(byte) v, (short) v, (int) v, v};
                Due.be("put " + v, x.put(sort, 1, v), 1);
                Due.be("sort " + sort + ": " + v, x.element(sort, 1), due[sort]);
            }
            Due.be("the one ahead stays", x.element(sort, 0), 0);
            Due.be("the one behind stays", x.element(sort, 2), 0);
        }
        x.put(3, 1, Long.MIN_VALUE);
        Due.be("the least long", x.element(3, 1), Long.MIN_VALUE);
    }

    private static void booleans() {
        GoodbyeAll x = new GoodbyeAll();
        x.row(0, 4, 2);
        long[] values = {1, -1, 2, 256, 65536, 4294967296L, Long.MAX_VALUE, Long.MIN_VALUE};
        for (long v : values) {
            Due.be("put " + v, x.put(0, 1, v), 1);
            Due.be("not 0: " + v, x.element(0, 1), 1);
            Due.be("put 0", x.put(0, 1, 0), 1);
            Due.be("0", x.element(0, 1), 0);
        }
    }

    private static void keep() {
        GoodbyeAll x = new GoodbyeAll();
        Due.be("no BODY yet", x.keep(0, 0), -1);
        x.body(2);
        x.body(5);
        int[] bad = {-2, 2, 50, Integer.MIN_VALUE, Integer.MAX_VALUE};
        Due.be("a BODY", x.keep(0, 0), 1);
        for (int body : bad) {
            Due.be("keep(0, " + body + ")", x.keep(0, body), -1);
        }
        Due.be("it stays", x.taken(0, 0), 2);
        Due.be("the last BODY", x.keep(0, 1), 1);
        Due.be("it is there", x.taken(0, 0), 5);
        Due.be("nothing", x.keep(0, -1), 1);
        Due.be("nothing is there", x.taken(0, 0), -11);
        Due.be("nothing once more", x.keep(0, -1), 1);
    }

    private static void rowRefusals() {
        GoodbyeAll x = new GoodbyeAll();
        x.row(0, 0, 1);
        x.put(0, 0, 7);
        for (int sort : Boundaries.outside(0, 4)) {
            Due.be("sort " + sort, x.row(0, sort, 1), -1);
            Due.be("sort " + sort + " ahead of -14", x.row(0, sort, -1), -1);
        }
        int[] above = {61, 62, 255, Integer.MAX_VALUE};
        for (int n : above) {
            Due.be("n " + n, x.row(0, 0, n), -1);
        }
        int[] below = {-1, -2, Integer.MIN_VALUE};
        for (int n : below) {
            Due.be("n " + n, x.row(0, 0, n), -14);
        }
        Due.be("the row stays", x.element(0, 0), 7);
        Due.be("so long", x.put(0, 1, 1), -13);
        Due.be("the least of all", x.row(0, 0, 0), 1);
        Due.be("the greatest of all", x.row(0, 4, 60), 1);
    }

    private static final int[] NO_PLACES = {-1, 3, 4, 59, 60, Integer.MIN_VALUE, Integer.MAX_VALUE};

    private static void putRefusals() {
        GoodbyeAll x = withBodies(0);
        for (int sort = 0; sort < 5; sort++) {
            x.row(0, sort, 3);
            for (int i : NO_PLACES) {
                Due.be("put(0, " + i + ", 1)", x.put(0, i, 1), -13);
            }
            Due.be("the first", x.put(0, 0, 1), 1);
            Due.be("the last", x.put(0, 2, 1), 1);
        }
        Due.be("nothing there", x.put(1, -1, 1), -11);
        x.keep(1, 0);
        Due.be("a BODY", x.put(1, -1, 1), -12);
    }

    private static void elementRefusals() {
        GoodbyeAll x = withBodies(0);
        x.row(0, 0, 60);
        x.row(0, 0, 3);
        for (int i : NO_PLACES) {
            Due.be("element(0, " + i + ")", x.element(0, i), NONE);
        }
        Due.be("the last", x.element(0, 2), 0);
        Due.be("nothing there", x.element(1, 0), NONE);
        x.keep(1, 0);
        Due.be("a BODY", x.element(1, 0), NONE);
        Due.be("no shelf", x.element(6, 0), NONE);
        x.row(1, 0, 0);
        Due.be("an empty ROW", x.element(1, 0), NONE);
    }

    private static void elements(GoodbyeAll x, String when, int shelf, long... due) {
        for (int i = 0; i < due.length; i++) {
            Due.be(when + ", element " + i, x.element(shelf, i), due[i]);
        }
    }

    private static void shiftAsTheyWere() {
        GoodbyeAll x = new GoodbyeAll();
        Due.bytes(x, 0, 1, 2, 3, 4, 5);
        Due.be("up", x.shift(0, 0, 0, 1, 4), 4);
        elements(x, "up", 0, 1, 1, 2, 3, 4);
        Due.be("down", x.shift(0, 1, 0, 0, 4), 4);
        elements(x, "down", 0, 1, 2, 3, 4, 4);
        Due.be("onto itself", x.shift(0, 0, 0, 0, 5), 5);
        elements(x, "onto itself", 0, 1, 2, 3, 4, 4);
        x.row(1, 0, 3);
        Due.be("to another one", x.shift(0, 1, 1, 1, 2), 2);
        elements(x, "to another one", 1, 0, 2, 3);
        Due.be("none", x.shift(0, 0, 1, 0, 0), 0);
        elements(x, "none", 1, 0, 2, 3);
        Due.be("none from behind the last to behind the last", x.shift(0, 5, 1, 3, 0), 0);
        x.row(2, 0, 0);
        Due.be("none of an empty one", x.shift(2, 0, 2, 0, 0), 0);
    }

    private static void shiftNothing() {
        GoodbyeAll x = withBodies(0);
        x.row(0, 0, 3);
        x.keep(1, 0);
        Due.be("from nothing", x.shift(2, 0, 0, 0, 1), -11);
        Due.be("to nothing", x.shift(0, 0, 2, 0, 1), -11);
        Due.be("from nothing to nothing", x.shift(2, 0, 3, 0, 1), -11);
        Due.be("from a BODY to nothing", x.shift(1, 0, 2, 0, 1), -11);
        Due.be("from nothing to a BODY", x.shift(2, 0, 1, 0, 1), -11);
        Due.be("ahead of -13", x.shift(2, -1, 0, -1, -1), -11);
    }

    private static void shiftKinds() {
        GoodbyeAll x = withBodies(0);
        x.keep(5, 0);
        for (int sort = 0; sort < 5; sort++) {
            x.row(sort, sort, 3);
        }
        for (int from = 0; from < 6; from++) {
            for (int to = 0; to < 6; to++) {
                Due.be("from " + from + " to " + to, x.shift(from, 0, to, 1, 2), from == to && from < 5 ? 2 : -12);
            }
        }
        Due.be("ahead of -13", x.shift(0, -1, 1, -1, -1), -12);
        Due.be("ahead of -13, a BODY", x.shift(5, -1, 5, -1, -1), -12);
    }

    private static void shiftPlaces() {
        GoodbyeAll x = new GoodbyeAll();
        Due.bytes(x, 0, 1, 2, 3, 4, 5);
        x.row(1, 0, 3);
        int most = Integer.MAX_VALUE;
        int least = Integer.MIN_VALUE;
        int[][] bad = {{0, 0, -1}, {0, 0, least}, {1, 1, -1}, {-1, 0, 1}, {0, -1, 1}, {-1, 0, 0}, {0, -1, 0},
            {6, 0, 0}, {0, 4, 0}, {0, 0, 4}, {0, 1, 3}, {3, 0, 3}, {5, 0, 1}, {0, 3, 1}, {most, 0, 1}, {0, most, 1},
            {1, 0, most}, {most, most, most}, {least, 0, 0}, {0, least, 0}, {most, 0, 2}, {least, least, least}};
        for (int[] p : bad) {
            Due.be("shift(0, " + p[0] + ", 1, " + p[1] + ", " + p[2] + ")", x.shift(0, p[0], 1, p[1], p[2]), -13);
        }
        elements(x, "none came", 1, 0, 0, 0);
        Due.be("the last three to all three", x.shift(0, 2, 1, 0, 3), 3);
        elements(x, "those came", 1, 3, 4, 5);
    }

    private static void taken() {
        GoodbyeAll x = oneOfEach();
        for (int kind = 0; kind < 8; kind++) {
            x.keep(0, kind);
            for (int k = 0; k < 8; k++) {
                boolean under = false;
                for (int up = kind; up >= 0; up = ABOVE[up]) {
                    under |= up == k;
                }
                Due.be("KIND " + kind + " for " + k, x.taken(0, k), under ? kind : -12);
            }
        }
        for (int k : Boundaries.outside(0, 7)) {
            Due.be("taken(0, " + k + ")", x.taken(0, k), -1);
            Due.be("of nothing, " + k, x.taken(1, k), -1);
        }
        Due.be("nothing", x.taken(1, 0), -11);
        for (int sort = 0; sort < 5; sort++) {
            x.row(1, sort, 3);
            Due.be("a ROW", x.taken(1, 0), -12);
        }
    }

    private static void count() {
        GoodbyeAll x = oneOfEach();
        for (int what : Boundaries.outside(0, 5)) {
            Due.be("count(" + what + ")", x.count(what), -1);
        }
        Due.be("none ran yet", x.count(5), 0);
        x.act(5, 3, 0);
        Due.be("ten ran", x.count(5), 10);
        x.act(0, 0, 0);
        Due.be("one ran", x.count(5), 1);
    }

    private static void counts() {
        GoodbyeAll x = new GoodbyeAll();
        for (int what = 0; what < 6; what++) {
            Due.be("at first, count(" + what + ")", x.count(what), 0);
        }
        for (int g = 0; g < 10; g++) {
            x.guest(0, 0);
        }
        x.goodbye();
        Due.be("ten GUESTS", x.count(0), 10);
        Due.be("who is told in deed MUST be still", x.count(1), 10);
        x.mend(3, 4, 0);
        Due.be("nine MUST", x.count(1), 9);
        Due.be("one change", x.count(3), 1);
        x.undo();
        Due.be("none may be undone", x.count(3), 0);
        Due.be("ten MUST again", x.count(1), 10);
        x.feed(0);
        Due.be("a byte", x.count(2), 1);
        x.law();
        Due.be("no byte", x.count(2), 0);
        x.body(0);
        Due.be("a BODY", x.count(4), 1);
    }
}
