/** Terms 2, a pair, draws and told rounds; promises 10 to 14, 21 and 22. */
final class RoundsBoundaries {
    private static final int MUST = 4, HOST = 5, WAY = 7;

    private RoundsBoundaries() {
    }

    static void addTo(Boundaries b) {
        b.add("rm", "rm: 100 times the ROOM and the minute, 0 .. 99", RoundsBoundaries::rm);
        b.add("round: 12 rooms", "(At most 12 ROOMS", RoundsBoundaries::twelve);
        b.add("round: beyond 99", "minutes beyond 99: ROOMS stay as at 99.)", RoundsBoundaries::beyond99);
        b.add("round: no room", "(ROOMS by a ROW of bytes on a SHELF; one that is no ROOM ends it)",
            RoundsBoundaries::noRoom);
        b.add("round: missed", "MISSED: who MUST be told and was not (bits). DONE: none is MISSED.",
            RoundsBoundaries::missed);
        b.add("round: refusals", "END (what 0), HOME (1), MISSED (2). BAD, -11, -12 (no ROW of bytes).",
            RoundsBoundaries::roundRefusals);
        b.add("round: the same room", "ROOMS of a row one after another: the way (WAYS between, minutes)",
            RoundsBoundaries::sameRoom);
        b.add("soonest: six rooms", "of all rows of at most 6 ROOMS", RoundsBoundaries::six);
        b.add("soonest: unlike", "(one unlike the one ahead)", RoundsBoundaries::unlike);
        b.add("soonest: the shorter", "(of like ones the shorter, then the first by numbers)",
            RoundsBoundaries::shorter);
        b.add("soonest: the first by numbers", "then the first by numbers): HOME; the k-th ROOM",
            RoundsBoundaries::firstByNumbers);
        b.add("soonest: none", "the k-th ROOM; NOT: none.", RoundsBoundaries::none);
        b.add("soonest: k", "HOME (k -1), the k-th ROOM (NOT: not as many, too). BAD; NOT.", RoundsBoundaries::kth);
        b.add("beginBy: 0 to 99", "the latest minute (0 .. 99) to begin from a ROOM", RoundsBoundaries::latest);
        b.add("beginBy: no later", "so that the SOONEST row's HOME is no later than told; NOT.",
            RoundsBoundaries::noLater);
        b.add("beginBy: refusals", "BEGIN BY. BAD; NOT.", RoundsBoundaries::beginByRefusals);
        b.add("slip: the beginning", "(the ROOM at the beginning does not count, but if it is the hall)",
            RoundsBoundaries::slipBeginning);
        b.add("slip: in the minute", "or the hall, in the minute one is there", RoundsBoundaries::slipMinute);
        b.add("slip: least noticed", "the minute (from told on, to 99) in which fewest NOTICE",
            RoundsBoundaries::leastNoticed);
        b.add("slip: the first", "in which fewest NOTICE (of like ones the first).", RoundsBoundaries::leastFirst);
        b.add("slip: refusals", "who NOTICES (what 0), LEAST NOTICED from that minute on (1). BAD.",
            RoundsBoundaries::slipRefusals);
        b.add("pair: behind its end",
            "(What one has told counts for the other from the minute behind its END of that GOODBYE on.)",
            RoundsBoundaries::behindItsEnd);
        b.add("pair: told by either", "MUST told by either; HOME of the later one; MISSED by both together.",
            RoundsBoundaries::byEither);
        b.add("pair: ss, rr, minute", "(ss: 10 times the SHELVES; rr: 10 times both ROOMS at the beginning)",
            RoundsBoundaries::pairNumbers);
        b.add("pair: refusals", "from a minute: HOME (what 0), MISSED (1). BAD, -11, -12.",
            RoundsBoundaries::pairRefusals);
        b.add("drawn: n", "DRAWN: n ROUNDS (1 .. 30) by a SEED from a ROOM at a minute", RoundsBoundaries::drawnMany);
        b.add("drawn: an int", "z = z * 1103515245 + 12345 (an int; SEED at first)", RoundsBoundaries::drawnWraps);
        b.add("drawn: the same one", "(as they come, the same one again, too)", RoundsBoundaries::drawnSame);
        b.add("drawn: refusals", "(rmn: 100 times rm, and n): HOMES (what 0), DONE (1). BAD.",
            RoundsBoundaries::drawnRefusals);
        b.add("judge: 0 to 127", "by twos a ROOM, the minute of its GOODBYE's end (0 .. 127)",
            RoundsBoundaries::judge127);
        b.add("judge: not so", "JUDGED: the first two that is not so (no ROOM, a two's end that lacks, too); NOT.",
            RoundsBoundaries::judgeNotSo);
        b.add("judge: refusals", "JUDGED. BAD, -11, -12 (no ROW of bytes); NOT.", RoundsBoundaries::judgeRefusals);
    }

    private static GoodbyeAll withRows() {
        GoodbyeAll x = new GoodbyeAll();
        x.row(0, 0, 0);
        x.row(1, 0, 0);
        return x;
    }

    private static void rm() {
        GoodbyeAll x = withRows();
        for (int rm : Boundaries.outside(0, 499)) {
            Due.be("round, rm " + rm, x.round(0, rm, 0), -1);
            Due.be("soonest, rm " + rm, x.soonest(rm, -1), -1);
            Due.be("slip, rm " + rm, x.slip(rm, 1), -1);
            Due.be("judge, rm " + rm, x.judge(0, rm), -1);
        }
        Due.be("the least", x.round(0, 0, 1), 0);
        Due.be("room 0, minute 99", x.round(0, 99, 1), 99);
        Due.be("room 1, minute 0", x.round(0, 100, 1), 1);
        Due.be("the greatest", x.round(0, 499, 1), 103);
        Due.be("soonest: room 0, minute 99", x.soonest(99, -1), 99);
        Due.be("soonest: room 1, minute 0", x.soonest(100, -1), 1);
        Due.be("soonest: the greatest", x.soonest(499, -1), 103);
        Due.be("slip: the greatest", x.slip(499, 1), 99);
        Due.be("judge: the greatest", x.judge(0, 499), -2);
        Due.bytes(x, 0, 0, 103);
        Due.be("judge: from room 4 at 99", x.judge(0, 499), -2);
        Due.bytes(x, 0, 0, 12);
        Due.be("judge: from room 2 at 10", x.judge(0, 210), -2);
        Due.be("slip: from room 1 at 0", x.slip(100, 1), 0);
    }

    private static void twelve() {
        GoodbyeAll x = Boundaries.guestsIn(1, 2, 3);
        Due.bytes(x, 0, 0, 0, 0, 0, 0, 0, 0, 0, 0, 0, 1, 2, 3);
        Due.be("the twelfth room counts, the thirteenth does not", x.round(0, 0, 2), 4);
        Due.be("nor its minutes", x.round(0, 0, 0), 1 + 3 + 1 + 3);
        x.row(1, 0, 60);
        x.put(1, 12, 4);
        Due.be("behind twelve rooms of sixty", x.round(1, 0, 0), 0);
        Due.be("a pair's rooms, too", x.pair(0, 0, 0, 1), 4);
        Due.be("a pair's minutes, too", x.pair(1, 0, 0, 0), 8 + 2);
        Due.be("the other one's, too", x.pair(10, 0, 0, 0), 8 + 2);
    }

    private static void beyond99() {
        GoodbyeAll x = new GoodbyeAll();
        x.guest(1, 99);
        x.guest(10, 99);
        Due.bytes(x, 0, 1, 0);
        Due.be("to room 1 at 100, the hall at 104: END", x.round(0, 99, 0), 104 + 3);
        Due.be("both as at 99", x.round(0, 99, 2), 0);
        Due.be("room 1 at 99", x.round(0, 98, 2), 0);
        Due.be("room 1 at 98: another one is there", x.round(0, 97, 2), 1);
        Due.be("and the hall at 102 is empty", x.round(0, 97, 0), 98 + 3 + 1);
        Due.be("far beyond", x.soonest(499, -1), 102 + 3 + 1 + 3);
        x.stay(99);
        x.stay(99);
        x.go(1);
        Due.be("in deed, too", x.goodbye(), 1);
        Due.be("who notices at 100", x.slip(199, 0), 2);
    }

    private static void noRoom() {
        int[] none = {5, -1, 127, -128, 9};
        for (int byteOfNone : none) {
            GoodbyeAll x = Boundaries.guestsIn(1, 2, 3);
            Due.bytes(x, 0, 1, byteOfNone, 2);
            Due.be("MISSED behind " + byteOfNone, x.round(0, 0, 2), 2 + 4);
            Due.be("END ahead of " + byteOfNone, x.round(0, 0, 0), 4);
            Due.be("a pair's MISSED", x.pair(0, 0, 0, 1), 2 + 4);
            Due.bytes(x, 1, byteOfNone, 1, 2);
            Due.be("no ROOMS at all", x.round(1, 220, 0), 20);
            Due.be("a pair without ROOMS", x.pair(11, 42, 20, 0), 24);
        }
        GoodbyeAll x = Boundaries.guestsIn(4, 0);
        Due.bytes(x, 0, 4, 0);
        Due.be("4 and 0 are ROOMS", x.round(0, 0, 2), 0);
        x.row(1, 0, 0);
        Due.be("no byte: END", x.round(1, 317, 0), 17);
        Due.be("no byte: HOME", x.round(1, 317, 1), 20);
        Due.be("no byte: MISSED", x.round(1, 317, 2), 3);
    }

    private static void missed() {
        GoodbyeAll x = new GoodbyeAll();
        x.row(0, 0, 1);
        Due.be("nobody is MISSED", x.round(0, 0, 2), 0);
        Due.be("and all is DONE", x.drawn(1, 30, 1), 30);
        for (int g = 0; g < 10; g++) {
            x.guest(11, 0);
        }
        Due.be("all ten are MISSED", x.round(0, 0, 2), 1023);
        x.mend(9, MUST, 0);
        Due.be("who need not be told is not", x.round(0, 0, 2), 511);
        x.put(0, 0, 1);
        Due.be("none is", x.round(0, 0, 2), 0);
    }

    private static void roundRefusals() {
        GoodbyeAll x = withRows();
        for (int what : Boundaries.outside(0, 2)) {
            Due.be("what " + what, x.round(0, 0, what), -1);
        }
        for (int shelf : Boundaries.outside(0, 5)) {
            Due.be("shelf " + shelf, x.round(shelf, 0, 0), -1);
        }
        Due.be("nothing there", x.round(5, 0, 0), -11);
        for (int sort = 1; sort < 5; sort++) {
            x.row(5, sort, 3);
            Due.be("a row of sort " + sort, x.round(5, 0, 0), -12);
        }
        x.body(0);
        x.keep(5, 0);
        Due.be("a body", x.round(5, 0, 0), -12);
    }

    private static void sameRoom() {
        GoodbyeAll x = new GoodbyeAll();
        x.guest(11, 0);
        x.guest(41, 2);
        Due.bytes(x, 0, 1, 1, 1);
        // 1 .. 4 the first, then who came at 2: 4 .. 7, then none.
        Due.be("END", x.round(0, 0, 0), 7);
        Due.be("none is MISSED", x.round(0, 0, 2), 0);
        Due.be("a pair's, too", x.pair(0, 0, 0, 1), 0);
    }

    private static void six() {
        GoodbyeAll x = Boundaries.guestsIn(0, 1, 2, 3, 4, 0, 2);
        x.mend(5, HOST, 1);
        x.mend(6, HOST, 1);
        // All five rooms, the last of them with its host, then the other host's.
        Due.be("six are enough", x.soonest(0, -1), 27);
        Due.be("the sixth", x.soonest(0, 5), 0);
        x.guest(11, 0);
        x.mend(7, HOST, 1);
        Due.be("seven would be needed", x.soonest(0, -1), -2);
        Due.be("no first one", x.soonest(0, 0), -2);
        x.mend(7, MUST, 0);
        Due.be("six again", x.soonest(0, -1), 27);
    }

    private static void unlike() {
        GoodbyeAll x = new GoodbyeAll();
        x.guest(11, 0);
        x.guest(41, 10);
        x.mend(0, WAY, 9);
        x.mend(1, WAY, 9);
        // Room 1 at 9 .. 12 and once more at 12 .. 15 would be home at 24; by way of room 2 both are there at 27.
        Due.be("HOME", x.soonest(0, -1), 27 + 4 + 9);
        int[] row = {2, 1, -2};
        for (int k = 0; k < row.length; k++) {
            Due.be("the room " + k, x.soonest(0, k), row[k]);
        }
        GoodbyeAll hall = Boundaries.inTheHall(1);
        Due.be("the first has none ahead", hall.soonest(0, 0), 0);
        Due.be("its HOME", hall.soonest(0, -1), 3);
    }

    private static void shorter() {
        GoodbyeAll x = Boundaries.guestsIn(2);
        // 0, 2 and 1, 2 and 0, 1, 2 come home at 7, too, and are ahead by numbers.
        Due.be("HOME", x.soonest(0, -1), 7);
        Due.be("its only room", x.soonest(0, 0), 2);
        Due.be("no more", x.soonest(0, 1), -2);
        GoodbyeAll nobody = new GoodbyeAll();
        Due.be("no room at all", nobody.soonest(200, 0), -2);
        Due.be("straight home", nobody.soonest(200, -1), 2);
    }

    private static void firstByNumbers() {
        GoodbyeAll x = Boundaries.guestsIn(4, 2, 3);
        // Whether on the way there or on the way back: the HOME is the same.
        Due.be("HOME", x.soonest(0, -1), 4 + 9 + 4);
        int[] row = {2, 3, 4, -2};
        for (int k = 0; k < row.length; k++) {
            Due.be("the room " + k, x.soonest(0, k), row[k]);
        }
        Due.be("the least HOME goes ahead of the numbers", x.soonest(400, 0), 4);
    }

    private static void none() {
        GoodbyeAll x = new GoodbyeAll();
        Due.be("nobody: a row without rooms", x.soonest(0, -1), 0);
        // A guest in each of the five rooms, and three hosts: seven rooms at least.
        x = Boundaries.guestsIn(0, 1, 2, 3, 4, 0, 1, 2);
        for (int g = 5; g < 8; g++) {
            x.mend(g, HOST, 1);
        }
        Due.be("none: HOME", x.soonest(0, -1), -2);
        Due.be("none: the first", x.soonest(0, 0), -2);
        Due.be("none: beginBy", x.beginBy(0, 999), -2);
        Due.be("bad ahead of none", x.soonest(0, -2), -1);
    }

    private static void kth() {
        GoodbyeAll x = Boundaries.guestsIn(1, 3);
        int[] bad = {-2, -3, Integer.MIN_VALUE};
        for (int k : bad) {
            Due.be("soonest(0, " + k + ")", x.soonest(0, k), -1);
        }
        Due.be("HOME", x.soonest(0, -1), 12);
        Due.be("the first", x.soonest(0, 0), 1);
        Due.be("the last", x.soonest(0, 1), 3);
        int[] far = {2, 5, 6, 7, Integer.MAX_VALUE};
        for (int k : far) {
            Due.be("soonest(0, " + k + ")", x.soonest(0, k), -2);
        }
    }

    private static void latest() {
        GoodbyeAll x = new GoodbyeAll();
        Due.be("99 at the latest", x.beginBy(0, 999), 99);
        Due.be("99", x.beginBy(4, 103), 99);
        Due.be("98", x.beginBy(4, 102), 98);
        Due.be("0 at the earliest", x.beginBy(4, 4), 0);
        Due.be("none earlier", x.beginBy(4, 3), -2);
        Due.be("0 by 0", x.beginBy(0, 0), 0);
    }

    private static void noLater() {
        GoodbyeAll x = new GoodbyeAll();
        x.guest(40, 60);
        // From 60 on in the hall, 3 minutes; ahead of that 4 + 3 + 4, but one may wait on the way.
        Due.be("no later than 63", x.beginBy(0, 63), 60);
        Due.be("no later than 62", x.beginBy(0, 62), 51);
        Due.be("no later than 11", x.beginBy(0, 11), 0);
        Due.be("no later than 10", x.beginBy(0, 10), -2);
        Due.be("no later than 999", x.beginBy(0, 999), 99);
    }

    private static void beginByRefusals() {
        GoodbyeAll x = Boundaries.guestsIn(0, 1, 2, 3, 4, 0, 1, 2);
        for (int g = 5; g < 8; g++) {
            x.mend(g, HOST, 1);
        }
        for (int room : Boundaries.outside(0, 4)) {
            Due.be("room " + room, x.beginBy(room, 50), -1);
        }
        for (int home : Boundaries.outside(0, 999)) {
            Due.be("home " + home, x.beginBy(0, home), -1);
        }
        Due.be("no row at all", x.beginBy(0, 999), -2);
        Due.be("no row at all from room 4", x.beginBy(4, 0), -2);
    }

    private static void slipBeginning() {
        GoodbyeAll x = Boundaries.guestsIn(0, 1, 2, 3, 4);
        Due.be("from room 4", x.slip(400, 0), 15);
        Due.be("from room 2", x.slip(200, 0), 3);
        Due.be("from room 1", x.slip(100, 0), 1);
        Due.be("from the hall: it counts", x.slip(0, 0), 1);
        Due.be("nobody", new GoodbyeAll().slip(499, 0), 0);
    }

    private static void slipMinute() {
        GoodbyeAll x = new GoodbyeAll();
        // In room 1 till 9, in the hall from 10 on; in the hall till 11; in room 1 from 9 on.
        x.guest(10, 10);
        x.guest(4, 12);
        x.guest(41, 9);
        Due.be("room 1 at 8, the hall at 9", x.slip(207, 0), 1 + 2);
        Due.be("room 1 at 9, the hall at 10", x.slip(208, 0), 1 + 2 + 4);
        Due.be("room 1 at 10, the hall at 11", x.slip(209, 0), 1 + 2 + 4);
        Due.be("room 1 at 11, the hall at 12", x.slip(210, 0), 1 + 4);
        Due.be("the hall at 9", x.slip(9, 0), 2);
        Due.be("the hall at 10", x.slip(10, 0), 3);
        x.mend(0, WAY, 3);
        Due.be("room 1 at 9, the hall at 12", x.slip(208, 0), 1 + 4);
        GoodbyeAll late = new GoodbyeAll();
        late.guest(40, 99);
        Due.be("beyond 99 as at 99", late.slip(499, 0), 1);
        Due.be("the hall at 98", late.slip(494, 0), 0);
        Due.be("the hall at 99", late.slip(495, 0), 1);
    }

    private static void leastNoticed() {
        GoodbyeAll x = new GoodbyeAll();
        x.guest(4, 99);
        Due.be("the last minute of all", x.slip(0, 1), 99);
        Due.be("from the last one on", x.slip(99, 1), 99);
        x.mend(0, 2, 98);
        Due.be("the last but one", x.slip(0, 1), 98);
        x.mend(0, 1, 0);
        Due.be("none better: the one told", x.slip(37, 1), 37);
        GoodbyeAll y = new GoodbyeAll();
        y.guest(40, 30);
        Due.be("not ahead of the one told", y.slip(40, 1), 40);
        Due.be("the one told counts", y.slip(29, 1), 29);
        Due.be("from room 3 the hall at 29 is the last", y.slip(326, 1), 26);
        Due.be("from room 3 no minute behind it is better", y.slip(327, 1), 27);
        y.mend(0, 0, 0);
        y.mend(0, 1, 4);
        Due.be("from room 3 the hall at 30 is the first", y.slip(300, 1), 27);
        Due.be("from room 2, too", y.slip(207, 1), 28);
    }

    private static void leastFirst() {
        GoodbyeAll x = new GoodbyeAll();
        x.guest(4, 20);
        x.guest(40, 60);
        Due.be("the first of 20 .. 59", x.slip(0, 1), 20);
        Due.be("the first of 45 .. 59", x.slip(45, 1), 45);
        Due.be("the first of 60 .. 99", x.slip(60, 1), 60);
        Due.be("nobody: the first of all", new GoodbyeAll().slip(0, 1), 0);
    }

    private static void slipRefusals() {
        GoodbyeAll x = Boundaries.inTheHall(1);
        for (int what : Boundaries.outside(0, 1)) {
            Due.be("what " + what, x.slip(0, what), -1);
        }
        Due.be("what 0", x.slip(99, 0), 1);
        Due.be("what 1", x.slip(99, 1), 99);
    }

    private static void behindItsEnd() {
        for (int talk = 0; talk <= 2; talk++) {
            GoodbyeAll x = Boundaries.guestsIn(1);
            x.mend(0, 3, talk);
            Due.bytes(x, 0, 1);
            // One begins at 1 and ends at 2 + talk; the other one begins at 3: behind the END, at it, ahead of it.
            int end = talk == 0 ? 3 : 4 + talk;
            Due.be("END at " + (2 + talk), x.pair(0, 4, 0, 0), end + 1);
            Due.be("the other way round", x.pair(0, 40, 0, 0), end + 1);
        }
        GoodbyeAll x = Boundaries.guestsIn(1);
        Due.bytes(x, 0, 1);
        Due.be("both begin at once: both tell it", x.pair(0, 0, 0, 0), 5);
        GoodbyeAll host = Boundaries.guestsIn(1, 3);
        host.mend(1, HOST, 1);
        Due.bytes(host, 0, 1);
        Due.bytes(host, 1, 3);
        host.mend(3, WAY, 4);
        Due.be("at the END the host still waits", host.pair(1, 4, 0, 1), 2);
        host.mend(3, WAY, 5);
        Due.be("the minute behind it does not", host.pair(1, 4, 0, 1), 0);
    }

    private static void byEither() {
        GoodbyeAll x = Boundaries.guestsIn(1, 3, 0, 4);
        Due.bytes(x, 0, 1);
        Due.bytes(x, 1, 3);
        x.row(2, 0, 0);
        Due.be("MISSED by both", x.pair(1, 4, 0, 1), 4 + 8);
        Due.be("HOME of the later one", x.pair(1, 4, 0, 0), 1 + 3 + 3);
        Due.be("the later one first", x.pair(10, 40, 0, 0), 7);
        Due.be("none says goodbye: all are MISSED", x.pair(22, 4, 0, 1), 15);
        Due.be("none says goodbye: HOME", x.pair(22, 4, 0, 0), 4);
        Due.be("one alone: MISSED", x.pair(2, 4, 0, 1), 15 - 1);
        x.mend(2, MUST, 0);
        x.mend(3, MUST, 0);
        Due.be("none is MISSED", x.pair(1, 4, 0, 1), 0);
        Due.bytes(x, 3, 1, 3);
        Due.bytes(x, 4, 0, 0, 0, 0, 0, 4, 3, 1);
        // The one tells at 1 .. 4 and at 6 .. 9; the other one in room 3 at 5 .. 8, too, and comes to room 1 at 10.
        Due.be("each goodbye counts by its own END", x.pair(34, 0, 0, 0), 12);
        x.mend(3, WAY, 4);
        // Now the other one comes at 7 to room 4, at 11 to room 3, at 13 to room 1: both have been told.
        Due.be("all that the one has told", x.pair(34, 0, 0, 0), 14);
    }

    private static void pairNumbers() {
        GoodbyeAll x = new GoodbyeAll();
        for (int shelf = 0; shelf < 6; shelf++) {
            x.row(shelf, 0, 0);
        }
        int[] badShelves = {-1, -10, -11, 6, 9, 16, 56, 60, 65, 100, Integer.MIN_VALUE, Integer.MAX_VALUE};
        for (int ss : badShelves) {
            Due.be("ss " + ss, x.pair(ss, 0, 0, 0), -1);
        }
        int[] badRooms = {-1, -10, -11, 5, 9, 15, 45, 50, 54, 100, Integer.MIN_VALUE, Integer.MAX_VALUE};
        for (int rr : badRooms) {
            Due.be("rr " + rr, x.pair(0, rr, 0, 0), -1);
        }
        for (int minute : Boundaries.outside(0, 99)) {
            Due.be("minute " + minute, x.pair(0, 44, minute, 0), -1);
        }
        Due.be("the greatest", x.pair(55, 44, 99, 0), 103);
        Due.be("the least", x.pair(0, 0, 0, 0), 0);
        Due.be("the one from room 4", x.pair(5, 40, 0, 0), 4);
        Due.be("the other one from room 4", x.pair(50, 4, 0, 0), 4);
        Due.bytes(x, 1, 4);
        Due.be("the one with the rooms of the first shelf", x.pair(10, 40, 0, 0), 4);
        Due.be("the other one with those", x.pair(1, 40, 0, 0), 8);
        Due.be("the one from the first room", x.pair(10, 4, 0, 0), 8);
    }

    private static void pairRefusals() {
        GoodbyeAll x = withRows();
        x.row(1, 1, 3);
        for (int what : Boundaries.outside(0, 1)) {
            Due.be("what " + what, x.pair(0, 0, 0, what), -1);
        }
        Due.be("nothing on the first", x.pair(20, 0, 0, 0), -11);
        Due.be("nothing on the other", x.pair(2, 0, 0, 0), -11);
        Due.be("no bytes on the first", x.pair(10, 0, 0, 0), -12);
        Due.be("no bytes on the other", x.pair(1, 0, 0, 0), -12);
        Due.be("no bytes, nothing", x.pair(12, 0, 0, 0), -11);
        Due.be("nothing, no bytes", x.pair(21, 0, 0, 0), -11);
        x.body(0);
        x.keep(2, 0);
        Due.be("a body", x.pair(2, 0, 0, 0), -12);
    }

    private static void drawnMany() {
        GoodbyeAll x = new GoodbyeAll();
        Due.be("one round", x.drawn(5, 1, 1), 1);
        Due.be("thirty rounds", x.drawn(5, 30, 1), 30);
        Due.be("from room 4 at 99", x.drawn(5, 49930, 1), 30);
        int[] bad = {0, 31, 32, 99};
        for (int n : bad) {
            Due.be("n " + n, x.drawn(5, n, 1), -1);
            Due.be("n " + n + " from room 4 at 99", x.drawn(5, 49900 + n, 1), -1);
        }
    }

    /** Rounds as the document draws them, in a house without guests: all HOMES together. */
    private static int homes(int seed, int room, int minute, int n) {
        int z = seed;
        int homes = 0;
        for (int i = 0; i < n; i++) {
            int at = room;
            homes += minute;
            for (int k = 0; k < 4; k++) {
                z = z * 1103515245 + 12345;
                int next = (z >>> 8) % 5;
                homes += Math.abs(next - at);
                at = next;
            }
            homes += at;
        }
        return homes;
    }

    private static void drawnWraps() {
        GoodbyeAll x = new GoodbyeAll();
        int[] seeds = {0, 1, -1, 2, 7, -77, 12345, Integer.MAX_VALUE, Integer.MIN_VALUE, Integer.MIN_VALUE + 1};
        for (int seed : seeds) {
            Due.be("one round by " + seed, x.drawn(seed, 1, 0), homes(seed, 0, 0, 1));
            Due.be("thirty rounds by " + seed, x.drawn(seed, 30, 0), homes(seed, 0, 0, 30));
        }
    }

    private static void drawnSame() {
        // A seed whose rounds draw a room twice running; the second goodbye there tells who came meanwhile.
        int seed = 0;
        int room = -1;
        for (int s = 0; s < 1000 && room < 0; s++) {
            int z1 = s * 1103515245 + 12345;
            int z2 = z1 * 1103515245 + 12345;
            if ((z1 >>> 8) % 5 == 2 && (z2 >>> 8) % 5 == 2) {
                seed = s;
                room = 2;
            }
        }
        GoodbyeAll x = new GoodbyeAll();
        x.guest(22, 0);
        x.guest(42, 3);
        Due.be("there is such a seed", room, 2);
        Due.be("both are told in one room", x.drawn(seed, 1, 1), 1);
    }

    private static void drawnRefusals() {
        GoodbyeAll x = new GoodbyeAll();
        for (int what : Boundaries.outside(0, 1)) {
            Due.be("what " + what, x.drawn(0, 1, what), -1);
        }
        int[] bad = {-1, -99, -100, Integer.MIN_VALUE, 50001, 50030, 60001, Integer.MAX_VALUE};
        for (int rmn : bad) {
            Due.be("rmn " + rmn, x.drawn(0, rmn, 1), -1);
        }
        Due.be("the greatest", x.drawn(0, 49930, 1), 30);
        Due.be("its HOMES", x.drawn(0, 49930, 0), homes(0, 4, 99, 30));
        Due.be("the least", x.drawn(0, 1, 1), 1);
        Due.be("its HOMES", x.drawn(0, 1, 0), homes(0, 0, 0, 1));
        Due.be("room 3, minute 7", x.drawn(-9, 30705, 0), homes(-9, 3, 7, 5));
        Due.be("room 4, minute 0", x.drawn(-9, 40001, 0), homes(-9, 4, 0, 1));
        Due.be("room 0, minute 99", x.drawn(-9, 9901, 0), homes(-9, 0, 99, 1));
        Due.be("four ROOMS of five", Boundaries.guestsIn(0, 1, 2, 3, 4).drawn(0, 30, 1), 0);
    }

    private static void judge127() {
        GoodbyeAll x = new GoodbyeAll();
        Due.bytes(x, 0, 0, 0);
        Due.be("0", x.judge(0, 0), -2);
        for (int way = 0; way < 4; way++) {
            x.mend(way, WAY, 7);
        }
        Due.bytes(x, 1, 4, 127);
        Due.be("127", x.judge(1, 99), -2);
        Due.be("126 is not 127", x.judge(1, 98), 0);
        x.guest(44, 0);
        x.mend(0, 3, 0);
        Due.bytes(x, 2, 4, 128);
        Due.be("128 is none", x.judge(2, 99), 0);
        Due.bytes(x, 3, 4, 127, 4, -128);
        Due.be("its end, not its beginning", x.judge(3, 98), 1);
        Due.be("127 with a goodbye", x.judge(1, 98), -2);
    }

    private static void judgeNotSo() {
        GoodbyeAll x = Boundaries.guestsIn(1, 3);
        Due.bytes(x, 0, 1, 4, 3, 9, 4, 10);
        Due.be("all are so", x.judge(0, 0), -2);
        Due.be("the first is not", x.judge(0, 1), 0);
        x.put(0, 5, 11);
        Due.be("the last is not", x.judge(0, 0), 2);
        x.put(0, 3, 8);
        Due.be("the first of two that are not", x.judge(0, 0), 1);
        int[] none = {5, -1, 127, -128};
        for (int room : none) {
            noRoomIsSo(room);
        }
        Due.bytes(x, 1, 1);
        Due.be("an end lacks at once", x.judge(1, 0), 0);
        Due.bytes(x, 1, 1, 4, 3);
        Due.be("an end lacks", x.judge(1, 0), 1);
        x.row(1, 0, 0);
        Due.be("nothing is told", x.judge(1, 0), -2);
    }

    private static void noRoomIsSo(int room) {
        GoodbyeAll x = Boundaries.guestsIn(1, 3);
        Due.bytes(x, 0, 1, 4, room, 0);
        for (int end = 0; end <= 127; end++) {
            x.put(0, 3, end);
            Due.be("no ROOM: " + room + ", " + end, x.judge(0, 0), 1);
        }
    }

    private static void judgeRefusals() {
        GoodbyeAll x = withRows();
        for (int shelf : Boundaries.outside(0, 5)) {
            Due.be("shelf " + shelf, x.judge(shelf, 0), -1);
        }
        Due.be("nothing there", x.judge(5, 0), -11);
        for (int sort = 1; sort < 5; sort++) {
            x.row(5, sort, 2);
            Due.be("a row of sort " + sort, x.judge(5, 0), -12);
        }
        x.body(0);
        x.keep(5, 0);
        Due.be("a body", x.judge(5, 0), -12);
    }
}
