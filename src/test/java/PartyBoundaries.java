/** Terms 3 without the pair, WHO KNOWS; promises 15 to 20. */
final class PartyBoundaries {
    private static final int LEAVES = 6;

    private PartyBoundaries() {
    }

    static void addTo(Boundaries b) {
        b.add("coats: above", "to take one's coat out one lifts those above: how many", PartyBoundaries::above);
        b.add("coats: none there", "BAD, -11, -12 (no ROW of bytes); NOT: it has none there.",
            PartyBoundaries::noneThere);
        b.add("coats: refusals", "COATS above a GUEST's. BAD, -11, -12 (no ROW of bytes)",
            PartyBoundaries::coatsRefusals);
        b.add("order: each time", "all that are lifted (each coat that is above, each time",
            PartyBoundaries::eachTime);
        b.add("order: laid back", "they are laid back in their order).", PartyBoundaries::laidBack);
        b.add("order: without a coat", "one without a coat there lifts none)", PartyBoundaries::withoutACoat);
        b.add("order: guests", "ORDER: GUESTS leaving in a told order (a ROW of bytes)", PartyBoundaries::nobodys);
        b.add("order: refusals", "(ss: 10 times the SHELF of the pile and that of the order",
            PartyBoundaries::orderRefusals);
        b.add("end: as so many", "all others who LEAVE, as so many have left by then", PartyBoundaries::asSoMany);
        b.add("end: ahead of the wave", "(counted ahead of the wave), leave: how many waves; who is left (bits)",
            PartyBoundaries::aheadOfTheWave);
        b.add("end: refusals", "THE END: waves (what 0), who is left (1). BAD.", PartyBoundaries::endRefusals);
        b.add("yawn: the fewest", "that one who, leaving first, leaves the fewest behind (of like ones the least)",
            PartyBoundaries::yawn);
        b.add("yawn: nobody", "YAWN. NOT: nobody.", PartyBoundaries::nobodyYawns);
        b.add("clear: the fewest", "the fewest GUESTS (bits; of like ones the least number) that must leave at first",
            PartyBoundaries::clear);
        b.add("clear: all at last", "so that all do at last.", PartyBoundaries::clearAll);
        b.add("knows: minute 0", "one GUEST knows at minute 0 that one is going", PartyBoundaries::minuteZero);
        b.add("knows: in the minute ahead", "whoever is IN a ROOM with one that knew in the minute ahead",
            PartyBoundaries::minuteAhead);
        b.add("knows: beside it", "and is beside it by number (1 apart), knows, too", PartyBoundaries::beside);
        b.add("knows: behind k minutes", "who knows behind k minutes (0 .. 99; bits)", PartyBoundaries::behindK);
        b.add("knows: the first minute", "the first minute behind which all do; NOT.", PartyBoundaries::firstMinute);
        b.add("knows: refusals", "(k -1: the first minute behind which all do; NOT). BAD.",
            PartyBoundaries::knowsRefusals);
    }

    private static GoodbyeAll leaving(int... leaves) {
        GoodbyeAll x = Boundaries.inTheHall(leaves.length);
        for (int g = 0; g < leaves.length; g++) {
            x.mend(g, LEAVES, leaves[g]);
        }
        return x;
    }

    private static void above() {
        GoodbyeAll x = Boundaries.inTheHall(5);
        Due.bytes(x, 0, 3, 1, 4, 1, 2);
        Due.be("on top: none", x.coats(0, 2), 0);
        Due.be("at the bottom: all others", x.coats(0, 3), 4);
        Due.be("of two coats the lower one", x.coats(0, 1), 3);
        Due.bytes(x, 0, 4);
        Due.be("a pile of one", x.coats(0, 4), 0);
        x.row(0, 0, 60);
        Due.be("a pile of sixty", x.coats(0, 0), 59);
        x.put(0, 59, 1);
        Due.be("on top of sixty", x.coats(0, 1), 0);
    }

    private static void noneThere() {
        GoodbyeAll x = Boundaries.inTheHall(3);
        x.row(0, 0, 0);
        Due.be("an empty pile", x.coats(0, 0), -2);
        Due.bytes(x, 0, 1, 1, -1, 2);
        Due.be("none of guest 0", x.coats(0, 0), -2);
        x.row(0, 0, 1);
        Due.be("what lay there is gone", x.coats(0, 2), -2);
    }

    private static void coatsRefusals() {
        GoodbyeAll x = new GoodbyeAll();
        x.row(0, 0, 3);
        Due.be("nobody has come", x.coats(0, 0), -1);
        x.guest(0, 0);
        for (int guest : Boundaries.outside(0, 0)) {
            Due.be("guest " + guest, x.coats(0, guest), -1);
        }
        for (int shelf : Boundaries.outside(0, 5)) {
            Due.be("shelf " + shelf, x.coats(shelf, 0), -1);
        }
        Due.be("nothing there", x.coats(5, 0), -11);
        for (int sort = 1; sort < 5; sort++) {
            x.row(5, sort, 3);
            Due.be("a row of sort " + sort, x.coats(5, 0), -12);
        }
        x.body(0);
        x.keep(5, 0);
        Due.be("a body", x.coats(5, 0), -12);
    }

    private static void eachTime() {
        GoodbyeAll x = Boundaries.inTheHall(5);
        Due.bytes(x, 0, 0, 1, 2, 3, 4);
        Due.bytes(x, 1, 0, 1, 2, 3, 4);
        Due.be("from below up", x.order(1), 4 + 3 + 2 + 1);
        Due.bytes(x, 2, 4, 3, 2, 1, 0);
        Due.be("from above down", x.order(2), 0);
        Due.bytes(x, 3, 2, 0, 3);
        Due.be("a coat that is gone is lifted no more", x.order(3), 2 + 3 + 1);
        x.row(4, 0, 60);
        Due.be("sixty of one guest", x.order(44), 59 * 60 / 2);
    }

    private static void laidBack() {
        GoodbyeAll x = Boundaries.inTheHall(4);
        Due.bytes(x, 0, 0, 1, 2, 3);
        Due.bytes(x, 1, 0, 2, 1);
        Due.be("2 is still below 3, 1 below both", x.order(1), 3 + 1 + 1);
        Due.be("the pile on the shelf is as it was", x.coats(0, 0), 3);
        Due.be("once more", x.order(1), 5);
    }

    private static void withoutACoat() {
        GoodbyeAll x = Boundaries.inTheHall(4);
        Due.bytes(x, 0, 0, 1, 2);
        Due.bytes(x, 1, 3, 0, 0, 3, 1);
        Due.be("those behind it leave all the same", x.order(1), 2 + 1);
        x.row(2, 0, 0);
        Due.be("an empty pile", x.order(21), 0);
        Due.be("an empty order", x.order(2), 0);
        Due.be("both are empty", x.order(22), 0);
    }

    private static void nobodys() {
        GoodbyeAll none = new GoodbyeAll();
        Due.bytes(none, 0, 0, 1, 2, -1, 10, 0);
        Due.bytes(none, 1, 0, 1, 2, -1, 10, 127, -128);
        Due.be("nobody has come", none.order(1), 0);
        GoodbyeAll x = Boundaries.inTheHall(2);
        Due.bytes(x, 0, 2, -1, 10, 0, 1, 0);
        Due.bytes(x, 1, 2, -1, 10, 127, -128);
        Due.be("none of those has come", x.order(1), 0);
        Due.bytes(x, 2, 2, 0, -1, 0, 10, 1);
        Due.be("those who have leave all the same", x.order(2), 2);
        x.guest(0, 0);
        Due.be("one more has come", x.order(1), 5);
    }

    private static void orderRefusals() {
        GoodbyeAll x = Boundaries.inTheHall(2);
        Due.bytes(x, 0, 0, 1);
        Due.bytes(x, 5, 0);
        int[] bad = {-1, -10, 6, 9, 16, 56, 60, 65, 100, Integer.MIN_VALUE, Integer.MAX_VALUE};
        for (int ss : bad) {
            Due.be("order(" + ss + ")", x.order(ss), -1);
        }
        Due.be("the pile on 0, the order on 5", x.order(5), 1);
        Due.be("the pile on 5, the order on 0", x.order(50), 0);
        Due.be("no pile", x.order(10), -11);
        Due.be("no order", x.order(1), -11);
        x.row(2, 1, 2);
        Due.be("a pile of shorts", x.order(20), -12);
        Due.be("an order of shorts", x.order(2), -12);
        Due.be("-11 of the order ahead of -12 of the pile", x.order(21), -11);
        Due.be("-11 of the pile ahead of -12 of the order", x.order(12), -11);
    }

    private static void asSoMany() {
        GoodbyeAll x = leaving(11, 1, 2, 4, 11);
        Due.be("who is left", x.end(0, 1), 8 + 16);
        Due.be("two waves", x.end(0, 0), 2);
        x.mend(3, LEAVES, 3);
        Due.be("one more has left by then", x.end(0, 1), 16);
        Due.be("three waves", x.end(0, 0), 3);
        Due.be("it does not matter when the first LEAVES", x.end(4, 1), 1);
        GoodbyeAll more = leaving(11, 1, 1, 2);
        Due.be("more than so many have left", more.end(0, 1), 0);
        Due.be("two waves, too", more.end(0, 0), 2);
        GoodbyeAll none = leaving(11, 2, 2);
        Due.be("none of the others", none.end(0, 1), 6);
        Due.be("no wave", none.end(0, 0), 0);
        GoodbyeAll alone = leaving(1);
        Due.be("one alone: no wave", alone.end(0, 0), 0);
        Due.be("one alone: none is left", alone.end(0, 1), 0);
        GoodbyeAll ten = leaving(11, 1, 2, 3, 4, 5, 6, 7, 8, 9);
        Due.be("nine waves", ten.end(0, 0), 9);
        Due.be("none is left", ten.end(0, 1), 0);
        ten.mend(9, LEAVES, 10);
        Due.be("ten others there never are", ten.end(0, 1), 512);
    }

    private static void aheadOfTheWave() {
        // By number 1 would make it two ahead of 2 in the very same wave, were it not counted ahead.
        GoodbyeAll x = leaving(11, 1, 2, 3);
        Due.be("three waves", x.end(0, 0), 3);
        GoodbyeAll y = leaving(11, 1, 1, 3);
        Due.be("two go together, then one", y.end(0, 0), 2);
        Due.be("none is left", y.end(0, 1), 0);
    }

    private static void endRefusals() {
        GoodbyeAll x = new GoodbyeAll();
        Due.be("nobody", x.end(0, 0), -1);
        x.guest(0, 0);
        x.guest(0, 0);
        for (int first : Boundaries.outside(0, 1)) {
            Due.be("end(" + first + ", 0)", x.end(first, 0), -1);
        }
        for (int what : Boundaries.outside(0, 1)) {
            Due.be("end(0, " + what + ")", x.end(0, what), -1);
        }
        Due.be("the last guest", x.end(1, 1), 1);
    }

    private static void yawn() {
        Due.be("all alike: the least", leaving(11, 11, 11).yawn(), 0);
        Due.be("who would not leave by itself", leaving(1, 11, 1).yawn(), 1);
        Due.be("of like ones the least", leaving(1, 1, 11, 11).yawn(), 2);
        Due.be("one alone", leaving(5).yawn(), 0);
        Due.be("the last of ten", leaving(1, 1, 1, 1, 1, 1, 1, 1, 1, 11).yawn(), 9);
    }

    private static void nobodyYawns() {
        Due.be("nobody", new GoodbyeAll().yawn(), -2);
        Due.be("somebody", leaving(11).yawn(), 0);
    }

    private static void clear() {
        Due.be("of like ones the least", leaving(1, 1, 1, 1).clear(), 1);
        Due.be("two of like ones", leaving(2, 2, 2, 2).clear(), 3);
        Due.be("one is enough, if it is the right one", leaving(2, 3, 4, 1).clear(), 4);
        Due.be("of three that do the least", leaving(11, 2, 2, 2).clear(), 1 + 2);
        Due.be("nobody", new GoodbyeAll().clear(), 0);
    }

    private static void clearAll() {
        Due.be("who never LEAVES must", leaving(1, 11, 1, 11).clear(), 2 + 8);
        Due.be("all ten must", leaving(11, 11, 11, 11, 11, 11, 11, 11, 11, 11).clear(), 1023);
        Due.be("one alone must", leaving(1).clear(), 1);
        Due.be("nine waves behind one", leaving(11, 1, 2, 3, 4, 5, 6, 7, 8, 9).clear(), 1);
        Due.be("who waits for all others", leaving(1, 1, 2).clear(), 1);
        Due.be("who waits for more than there are", leaving(1, 1, 3).clear(), 4);
    }

    private static void minuteZero() {
        GoodbyeAll x = Boundaries.inTheHall(3);
        Due.be("one alone knows at 0", x.knows(1, 0), 2);
        Due.be("though others are there", x.knows(0, 0), 1);
        Due.be("nobody else does in that minute", x.knows(0, -1), 2);
        Due.be("one guest in all", Boundaries.inTheHall(1).knows(0, -1), 0);
    }

    private static void minuteAhead() {
        GoodbyeAll x = Boundaries.inTheHall(4);
        Due.be("behind 1", x.knows(0, 1), 3);
        Due.be("behind 2", x.knows(0, 2), 7);
        Due.be("behind 3", x.knows(0, 3), 15);
        GoodbyeAll meet = new GoodbyeAll();
        // Both are in the hall in minute 0 alone, where none knew in the minute ahead.
        meet.guest(0, 0);
        meet.guest(1, 1);
        Due.be("minute 0 tells nobody", meet.knows(0, -1), -2);
        meet.mend(1, 2, 2);
        Due.be("minute 1 does", meet.knows(0, -1), 1);
    }

    private static void beside() {
        GoodbyeAll x = Boundaries.guestsIn(0, 1, 0, 0);
        Due.be("2 apart does not do", x.knows(0, 99), 1);
        Due.be("1 apart upward", x.knows(2, 1), 4 + 8);
        Due.be("1 apart downward", x.knows(3, 1), 4 + 8);
        GoodbyeAll ten = Boundaries.inTheHall(10);
        Due.be("9 and 0 are not beside each other", ten.knows(9, 1), 512 + 256);
        Due.be("nor 0 and 9", ten.knows(0, 1), 3);
        GoodbyeAll apart = Boundaries.guestsIn(0, 1);
        Due.be("beside it, but in another room", apart.knows(0, 99), 1);
    }

    private static void behindK() {
        GoodbyeAll x = new GoodbyeAll();
        x.guest(0, 0);
        x.guest(10, 99);
        Due.be("behind 0", x.knows(0, 0), 1);
        Due.be("behind 98", x.knows(0, 98), 1);
        Due.be("behind 99", x.knows(0, 99), 3);
        Due.be("behind 100", x.knows(0, 100), -1);
        Due.be("in its first minute", Boundaries.inTheHall(2).knows(0, 1), 3);
    }

    private static void firstMinute() {
        GoodbyeAll x = new GoodbyeAll();
        x.guest(0, 0);
        x.guest(10, 99);
        Due.be("the first one, from 0", x.knows(0, -1), 99);
        x.guest(0, 0);
        Due.be("beyond 99", x.knows(0, -1), 100);
        for (int g = 3; g < 10; g++) {
            x.guest(0, 0);
        }
        Due.be("the last that may be", x.knows(0, -1), 107);
        x.mend(9, 0, 1);
        x.mend(9, 1, 1);
        Due.be("never all", x.knows(0, -1), -2);
        Due.be("one by one", Boundaries.inTheHall(10).knows(0, -1), 9);
    }

    private static void knowsRefusals() {
        GoodbyeAll x = new GoodbyeAll();
        Due.be("nobody", x.knows(0, 0), -1);
        Due.be("nobody, k -1", x.knows(0, -1), -1);
        x.guest(0, 0);
        x.guest(0, 0);
        for (int k : Boundaries.outside(-1, 99)) {
            Due.be("k " + k, x.knows(0, k), -1);
        }
        for (int guest : Boundaries.outside(0, 1)) {
            Due.be("guest " + guest, x.knows(guest, 0), -1);
            Due.be("guest " + guest + ", k -1", x.knows(guest, -1), -1);
        }
        Due.be("the last guest", x.knows(1, 0), 2);
        Due.be("the last k", x.knows(1, 99), 3);
        Due.be("k -1", x.knows(1, -1), 1);
    }
}
