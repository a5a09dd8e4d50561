/** Promises 10 to 14, 21 and 22: rounds, the soonest row, slipping off, a pair, draws, told rounds. */
public final class RoundsTest {
    public static void main(String[] args) {
        round();
        hosts();
        soonest();
        beginBy();
        slip();
        pair();
        pairRefusals();
        drawn();
        judge();
        Due.close();
    }

    private static void round() {
        GoodbyeAll x = new GoodbyeAll();
        x.guest(22, 0);
        x.guest(24, 10);
        x.guest(4, 30);
        x.mend(0, 7, 2);
        x.mend(1, 7, 5);
        Due.bytes(x, 0, 2, 4, 2);
        // The way 7, both in room 2: 7 .. 11; then 2 minutes to room 4: nobody till 30; back again.
        Due.be("END", x.round(0, 0, 0), 15);
        Due.be("HOME", x.round(0, 0, 1), 22);
        Due.be("MISSED", x.round(0, 0, 2), 4);
        Due.be("END from room 2 at 10", x.round(0, 210, 0), 10 + 3 + 2 + 3 + 2);
        Due.be("MISSED from room 2 at 10", x.round(0, 210, 2), 4);
        Due.be("END from room 2 at 99", x.round(0, 299, 0), 99 + 3 + 2 + 4 + 2);
        Due.be("DONE from room 2 at 99", x.round(0, 299, 2), 0);
        x.mend(2, 4, 0);
        Due.be("who need not be told is not missed", x.round(0, 0, 2), 0);
        Due.bytes(x, 1, 2, 5, 4);
        Due.be("no ROOM ends it", x.round(1, 0, 0), 11);
        x.put(1, 1, -1);
        Due.be("no ROOM ends it", x.round(1, 0, 0), 11);
        Due.bytes(x, 2, 0, 4, 0, 4, 0, 4, 0, 4, 0, 4, 0, 4, 0, 4);
        // Eleven ways of 9 minutes; at 27 the second guest is in room 4.
        Due.be("12 ROOMS at most", x.round(2, 0, 0), 11 * 9 + 3);
        x.row(3, 0, 0);
        Due.be("no ROOMS: END", x.round(3, 420, 0), 20);
        Due.be("no ROOMS: HOME", x.round(3, 420, 1), 29);
        Due.be("no ROOMS: MISSED", x.round(3, 420, 2), 3);
        Due.be("nothing on the shelf", x.round(4, 0, 0), -11);
        x.row(4, 4, 3);
        Due.be("booleans", x.round(4, 0, 0), -12);
        x.body(0);
        x.keep(4, 0);
        Due.be("a body", x.round(4, 0, 0), -12);
        int[] badRm = {-1, 500, Integer.MAX_VALUE, Integer.MIN_VALUE};
        for (int rm : badRm) {
            Due.be("rm " + rm, x.round(4, rm, 0), -1);
        }
        Due.be("shelf 6", x.round(6, 0, 0), -1);
        Due.be("shelf -1", x.round(-1, 0, 0), -1);
        Due.be("what 3", x.round(0, 0, 3), -1);
        Due.be("what -1", x.round(0, 0, -1), -1);
        x.go(2);
        x.goodbye();
        Due.be("deeds are none of a ROUND's", x.round(0, 0, 0), 15);
    }

    private static void hosts() {
        GoodbyeAll x = new GoodbyeAll();
        x.guest(0, 0);
        x.guest(0, 0);
        x.guest(11, 0);
        x.mend(0, 5, 1);
        Due.bytes(x, 0, 0, 1, 0);
        // The other one in the hall ahead of the HOST; the HOST as all others have been told.
        Due.be("END", x.round(0, 0, 0), 3 + 1 + 3 + 1 + 3);
        Due.be("MISSED", x.round(0, 0, 2), 0);
        Due.bytes(x, 1, 0, 1);
        Due.be("the HOST is missed", x.round(1, 0, 2), 1);
        x.mend(2, 4, 0);
        Due.be("all others are among those", x.round(1, 0, 0), 4 + 1);
        x.mend(2, 4, 1);
        x.mend(1, 5, 1);
        x.mend(2, 5, 1);
        Due.be("HOSTS alone do not wait for one another", x.round(1, 0, 2), 0);
    }

    private static void soonest() {
        GoodbyeAll x = new GoodbyeAll();
        Due.be("nobody: HOME", x.soonest(350, -1), 53);
        Due.be("nobody: no ROOM", x.soonest(350, 0), -2);
        x.guest(44, 0);
        x.guest(20, 10);
        // 4 first: 4 .. 7, room 2 at 9 .. 12, home 14; 2 first: 2 .. 5, room 4 at 7 .. 10, home 14.
        Due.be("HOME", x.soonest(0, -1), 14);
        Due.be("of like ones the first by numbers", x.soonest(0, 0), 2);
        Due.be("the other", x.soonest(0, 1), 4);
        Due.be("not as many", x.soonest(0, 2), -2);
        Due.be("far", x.soonest(0, Integer.MAX_VALUE), -2);
        // At 20 the second guest is in the hall: first there or last, the first by numbers again.
        Due.be("HOME", x.soonest(20, -1), 20 + 3 + 4 + 3 + 4);
        Due.be("the ROOM where one is may be the first", x.soonest(20, 0), 0);
        Due.be("then", x.soonest(20, 1), 4);
        Due.be("k -2", x.soonest(0, -2), -1);
        Due.be("rm 500", x.soonest(500, -1), -1);
        Due.be("rm -1", x.soonest(-1, -1), -1);
        none();
    }

    private static void none() {
        GoodbyeAll x = new GoodbyeAll();
        for (int room = 0; room < 5; room++) {
            x.guest(11 * room, 0);
        }
        Due.be("from the hall five ROOMS do", x.soonest(0, 4), 4);
        x.guest(0, 0);
        x.mend(5, 5, 1);
        Due.be("the HOST in the hall last, five ROOMS still", x.soonest(0, 4), 0);
        Due.be("no sixth", x.soonest(0, 5), -2);
        x.guest(22, 0);
        x.mend(6, 5, 1);
        // 0, 1, 3, 4, 2 with the HOST there, then the one in the hall.
        Due.be("six ROOMS: HOME", x.soonest(0, -1), 27);
        Due.be("six ROOMS", x.soonest(0, 5), 0);
        for (int way = 0; way < 4; way++) {
            x.mend(way, 7, 9);
        }
        Due.be("and no seventh", x.soonest(0, 6), -2);
        x.guest(11, 0);
        x.mend(7, 5, 1);
        Due.be("seven ROOMS are too many", x.soonest(0, -1), -2);
        Due.be("no row, no ROOM", x.soonest(0, 0), -2);
        Due.be("nor a minute to begin", x.beginBy(0, 999), -2);
    }

    private static void beginBy() {
        GoodbyeAll x = new GoodbyeAll();
        Due.be("nobody", x.beginBy(3, 50), 47);
        Due.be("nobody, late", x.beginBy(3, 999), 99);
        Due.be("too early", x.beginBy(3, 2), -2);
        Due.be("just", x.beginBy(3, 3), 0);
        Due.be("room 5", x.beginBy(5, 3), -1);
        Due.be("room -1", x.beginBy(-1, 3), -1);
        Due.be("home -1", x.beginBy(0, -1), -1);
        Due.be("home 1000", x.beginBy(0, 1000), -1);
        x.guest(40, 60);
        // From 60 on it is in the hall: 3 minutes; ahead of that 4 + 3 + 4.
        Due.be("home 62", x.beginBy(0, 62), 51);
        Due.be("home 63", x.beginBy(0, 63), 60);
        Due.be("home 10", x.beginBy(0, 10), -2);
        Due.be("home 11", x.beginBy(0, 11), 0);
    }

    private static void slip() {
        GoodbyeAll x = new GoodbyeAll();
        x.guest(33, 0);
        x.guest(20, 6);
        x.guest(11, 0);
        x.guest(2, 4);
        Due.be("ROOMS and the hall", x.slip(300, 0), 2 + 4 + 8);
        Due.be("the hall has been left", x.slip(302, 0), 2 + 4);
        Due.be("from the hall", x.slip(0, 0), 8);
        Due.be("one who has gone ahead to the hall", x.slip(305, 0), 2 + 4 + 8);
        Due.be("fewest", x.slip(300, 1), 1);
        Due.be("of like ones the first", x.slip(3, 1), 4);
        Due.be("late", x.slip(399, 1), 99);
        x.mend(1, 0, 0);
        x.mend(1, 2, 99);
        x.mend(2, 7, 9);
        Due.be("the WAY counts", x.slip(390, 0), 8 + 4 + 2);
        GoodbyeAll late = new GoodbyeAll();
        late.guest(4, 99);
        Due.be("the very last minute", late.slip(0, 1), 99);
        Due.be("rm 500", x.slip(500, 0), -1);
        Due.be("rm -1", x.slip(-1, 1), -1);
        Due.be("what 2", x.slip(0, 2), -1);
        Due.be("what -1", x.slip(0, -1), -1);
    }

    private static void pair() {
        GoodbyeAll x = new GoodbyeAll();
        x.guest(11, 0);
        x.guest(33, 0);
        Due.bytes(x, 0, 1, 3);
        Due.bytes(x, 1, 3, 1);
        // Each tells one: 1 .. 4 from the hall, 1 .. 4 from room 4; both are told as they come on at 6.
        Due.be("HOME of the later one", x.pair(1, 4, 0, 0), 9);
        Due.be("all are told", x.pair(1, 4, 0, 1), 0);
        Due.be("the other way round", x.pair(10, 40, 0, 0), 9);
        Due.bytes(x, 2);
        Due.be("one alone", x.pair(2, 4, 0, 0), 1 + 3 + 2 + 3 + 3);
        Due.be("none", x.pair(22, 4, 0, 0), 4);
        Due.be("none: MISSED", x.pair(22, 4, 0, 1), 3);
        Due.be("from minute 99", x.pair(1, 4, 99, 0), 108);
        behindTheEnd();
    }

    /** What ends in the very minute in which the other one begins does not count yet; a minute later it does. */
    private static void behindTheEnd() {
        for (int talk = 0; talk <= 2; talk++) {
            GoodbyeAll x = new GoodbyeAll();
            x.guest(11, 0);
            x.mend(0, 3, talk);
            Due.bytes(x, 0, 1);
            // One is there at 1 and ends at 2 + talk; the other one comes at 3.
            int own = talk < 1 ? 3 : 3 + 1 + talk;
            Due.be("talk " + talk, x.pair(0, 4, 0, 0), own + 1);
            Due.be("talk " + talk + ": MISSED", x.pair(0, 4, 0, 1), 0);
        }
        GoodbyeAll x = new GoodbyeAll();
        x.guest(11, 0);
        x.guest(33, 0);
        x.mend(1, 5, 1);
        Due.bytes(x, 0, 1);
        Due.bytes(x, 1, 3);
        Due.be("a HOST, as the other one has told all others: not yet", x.pair(1, 4, 0, 1), 2);
        x.mend(2, 7, 4);
        x.mend(3, 7, 4);
        Due.be("at the end's minute: not yet", x.pair(1, 4, 0, 1), 2);
        x.mend(3, 7, 5);
        Due.be("the minute behind it", x.pair(1, 4, 0, 1), 0);
    }

    private static void pairRefusals() {
        GoodbyeAll x = new GoodbyeAll();
        x.row(0, 0, 1);
        x.row(1, 3, 1);
        int[] badSs = {-1, -10, 6, 16, 60, 100, Integer.MIN_VALUE, Integer.MAX_VALUE};
        for (int ss : badSs) {
            Due.be("pair ss " + ss, x.pair(ss, 0, 0, 0), -1);
            Due.be("order ss " + ss, x.order(ss), -1);
        }
        int[] badRr = {-1, -10, 5, 15, 50, 100, Integer.MIN_VALUE, Integer.MAX_VALUE};
        for (int rr : badRr) {
            Due.be("pair rr " + rr, x.pair(0, rr, 0, 0), -1);
        }
        Due.be("minute -1", x.pair(0, 0, -1, 0), -1);
        Due.be("minute 100", x.pair(0, 0, 100, 0), -1);
        Due.be("what -1", x.pair(0, 0, 0, -1), -1);
        Due.be("what 2", x.pair(0, 0, 0, 2), -1);
        Due.be("BAD ahead of -11", x.pair(22, 0, 100, 0), -1);
        Due.be("-11 ahead of -12", x.pair(12, 0, 0, 0), -11);
        Due.be("-11 ahead of -12, the other way", x.pair(21, 0, 0, 0), -11);
        Due.be("-12", x.pair(1, 0, 0, 0), -12);
        Due.be("-12, the other way", x.pair(10, 0, 0, 0), -12);
        Due.be("order: -11 ahead of -12", x.order(12), -11);
        Due.be("order: -12", x.order(10), -12);
        Due.be("order: -12, the other way", x.order(1), -12);
    }

    private static void drawn() {
        GoodbyeAll x = new GoodbyeAll();
        x.guest(11, 0);
        // SEED 0 draws 12345 >>> 8 = 48: room 3, and so on; the sums are worked out in ModelTest.
        int z = 12345;
        int sum = 0;
        int at = 0;
        int first = -1;
        for (int k = 0; k < 4; k++) {
            int next = (z >>> 8) % 5;
            first = next == 1 ? 1 : first;
            sum += Math.abs(next - at);
            at = next;
            z = z * 1103515245 + 12345;
        }
        Due.be("HOMES", x.drawn(0, 1, 0), sum + at + (first == 1 ? 3 : 0));
        Due.be("DONE", x.drawn(0, 1, 1), first == 1 ? 1 : 0);
        int[] badRmn = {-1, -99, 0, 31, 99, 100, 50001, 50000, Integer.MAX_VALUE, Integer.MIN_VALUE};
        for (int rmn : badRmn) {
            Due.be("rmn " + rmn, x.drawn(0, rmn, 0), -1);
        }
        Due.be("what 2", x.drawn(0, 1, 2), -1);
        Due.be("what -1", x.drawn(0, 1, -1), -1);
        x.mend(0, 4, 0);
        Due.be("30 rounds, all DONE", x.drawn(-77, 49930, 1), 30);
        Due.be("another SEED", x.drawn(Integer.MIN_VALUE, 30, 1), 30);
    }

    private static void judge() {
        GoodbyeAll x = new GoodbyeAll();
        x.guest(11, 0);
        x.guest(33, 0);
        Due.be("nothing", x.judge(0, 0), -11);
        x.row(0, 1, 2);
        Due.be("shorts", x.judge(0, 0), -12);
        Due.bytes(x, 0, 1, 4, 3, 9, 4, 10);
        Due.be("so it is", x.judge(0, 0), -2);
        Due.be("not from minute 1", x.judge(0, 1), 0);
        x.put(0, 3, 8);
        Due.be("the second is not so", x.judge(0, 0), 1);
        x.put(0, 3, 9);
        x.put(0, 5, -10);
        Due.be("the third is not so", x.judge(0, 0), 2);
        x.put(0, 2, 5);
        Due.be("no ROOM", x.judge(0, 0), 1);
        x.put(0, 2, -1);
        Due.be("no ROOM", x.judge(0, 0), 1);
        Due.bytes(x, 1, 1, 4, 3);
        Due.be("an end that lacks", x.judge(1, 0), 1);
        x.put(1, 1, 5);
        Due.be("the first ahead of it", x.judge(1, 0), 0);
        Due.bytes(x, 2);
        Due.be("nothing is told", x.judge(2, 0), -2);
        Due.bytes(x, 3, 4, 127, 4, 127);
        Due.be("up to 127", x.judge(3, 499), 0);
        for (int way = 0; way < 4; way++) {
            x.mend(way, 7, 7);
        }
        Due.be("28 minutes to room 4", x.judge(3, 99), -2);
        Due.be("a byte never tells 128", x.judge(3, 9), 0);
        Due.be("rm 500", x.judge(1, 500), -1);
        Due.be("rm -1", x.judge(1, -1), -1);
        Due.be("shelf 6", x.judge(6, 0), -1);
        Due.be("shelf -1", x.judge(-1, 0), -1);
        Due.be("BAD ahead of -11", x.judge(5, 500), -1);
    }
}
