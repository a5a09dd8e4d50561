/** Promises 15 to 20: coats, the end, yawns, who knows. */
public final class PartyTest {
    public static void main(String[] args) {
        coats();
        order();
        orderOfNobody();
        end();
        clear();
        knows();
        knowsBeyond99();
        Due.close();
    }

    private static GoodbyeAll withGuests(int many, int... leaves) {
        GoodbyeAll x = new GoodbyeAll();
        for (int g = 0; g < many; g++) {
            x.guest(0, 0);
        }
        for (int g = 0; g < leaves.length; g++) {
            x.mend(g, 6, leaves[g]);
        }
        return x;
    }

    private static void coats() {
        GoodbyeAll x = withGuests(5);
        Due.be("nothing there", x.coats(0, 0), -11);
        x.row(0, 2, 3);
        Due.be("ints", x.coats(0, 0), -12);
        Due.bytes(x, 0, 3, 1, 4, 1);
        Due.be("the lowest", x.coats(0, 3), 3);
        Due.be("the highest", x.coats(0, 4), 1);
        Due.be("of two the lower", x.coats(0, 1), 2);
        Due.be("none there", x.coats(0, 0), -2);
        Due.be("no guest", x.coats(0, 5), -1);
        Due.be("no guest -1", x.coats(0, -1), -1);
        Due.be("shelf 6", x.coats(6, 0), -1);
        Due.be("shelf -1", x.coats(-1, 0), -1);
        Due.be("BAD ahead of -11", x.coats(1, 5), -1);
        x.put(0, 3, 2);
        Due.be("on top", x.coats(0, 2), 0);
        x.row(0, 0, 0);
        Due.be("an empty pile", x.coats(0, 0), -2);
    }

    private static void order() {
        GoodbyeAll x = withGuests(5);
        Due.bytes(x, 0, 0, 1, 2, 3);
        Due.bytes(x, 1, 0, 1, 2, 3);
        Due.be("from below up", x.order(1), 3 + 2 + 1);
        Due.bytes(x, 2, 3, 2, 1, 0);
        Due.be("from above down", x.order(2), 0);
        Due.bytes(x, 3, 1, 1, 4, 0);
        Due.be("without a coat, and twice", x.order(3), 2 + 2);
        Due.be("the pile stays as it was", x.order(3), 4);
        Due.be("the pile stays as it was", x.coats(0, 0), 3);
        Due.be("the pile is the first", x.order(30), 2);
        x.row(4, 0, 60);
        Due.be("sixty coats", x.order(44), 59 * 60 / 2);
        x.row(5, 0, 0);
        Due.be("no pile", x.order(50), 0);
        Due.be("no order", x.order(5), 0);
        GoodbyeAll y = withGuests(5);
        Due.be("nothing there", y.order(0), -11);
    }

    /** Bytes of the order that are no guest's number lift nothing, though such a byte lies in the pile. */
    private static void orderOfNobody() {
        GoodbyeAll none = new GoodbyeAll();
        Due.bytes(none, 0, 0, 0, 0);
        Due.be("nobody has come", none.order(0), 0);
        GoodbyeAll x = withGuests(2);
        Due.bytes(x, 0, 0, 1, 2, -1, 9);
        Due.bytes(x, 1, 2, -1, 9, 10, 127, -128);
        Due.be("none of the order has come", x.order(1), 0);
        Due.bytes(x, 2, 2, 0, -1, 1, 2);
        Due.be("the others leave, and nobody's coats stay in the pile", x.order(2), 4 + 3);
        Due.bytes(x, 3, 0, 2, 0);
        Due.be("its one coat lies below four", x.order(3), 4);
        Due.be("coats() takes no such number, too", x.coats(0, 2), -1);
        Due.be("guest 2 comes", x.guest(0, 0), 2);
        Due.be("now it leaves, too", x.order(2), 2 + 3 + 2);
        Due.be("on the pile's own order", x.order(0), 4 + 3 + 2);
    }

    private static void end() {
        GoodbyeAll x = withGuests(6, 11, 1, 1, 3, 5, 11);
        Due.be("waves", x.end(0, 0), 2);
        Due.be("who is left", x.end(0, 1), 16 + 32);
        Due.be("from 5: waves", x.end(5, 0), 2);
        Due.be("from 1", x.end(1, 1), 1 + 8 + 16 + 32);
        Due.be("from 1: waves", x.end(1, 0), 1);
        Due.be("from 3", x.end(3, 1), 1 + 16 + 32);
        Due.be("no guest", x.end(6, 0), -1);
        Due.be("no guest -1", x.end(-1, 0), -1);
        Due.be("what 2", x.end(0, 2), -1);
        Due.be("what -1", x.end(0, -1), -1);
        Due.be("the fewest behind, the least", x.yawn(), 0);
        x.mend(0, 6, 1);
        Due.be("a yawn of another", x.yawn(), 5);
        GoodbyeAll chain = withGuests(10, 11, 1, 2, 3, 4, 5, 6, 7, 8, 9);
        Due.be("nine waves", chain.end(0, 0), 9);
        Due.be("none is left", chain.end(0, 1), 0);
        Due.be("nobody", withGuests(0).yawn(), -2);
        Due.be("one alone", withGuests(1).yawn(), 0);
        Due.be("one alone: waves", withGuests(1).end(0, 0), 0);
    }

    private static void clear() {
        Due.be("nobody", withGuests(0).clear(), 0);
        Due.be("one", withGuests(1, 1).clear(), 1);
        Due.be("a chain", withGuests(4, 1, 2, 3, 11).clear(), 8);
        Due.be("of like ones the least", withGuests(4, 1, 1, 1, 1).clear(), 1);
        Due.be("all must", withGuests(3, 11, 11, 11).clear(), 7);
        Due.be("two that are like", withGuests(4, 2, 2, 2, 2).clear(), 3);
        Due.be("who waits longest goes", withGuests(4, 1, 1, 1, 4).clear(), 8);
    }

    private static void knows() {
        GoodbyeAll x = new GoodbyeAll();
        x.guest(1, 3);
        x.guest(11, 0);
        x.guest(21, 5);
        x.guest(11, 0);
        Due.be("behind 0 minutes", x.knows(0, 0), 1);
        Due.be("behind 2", x.knows(0, 2), 1);
        Due.be("as it comes", x.knows(0, 3), 3);
        Due.be("3 is not beside 1", x.knows(0, 4), 3);
        Due.be("2 comes", x.knows(0, 5), 7);
        Due.be("one a minute", x.knows(0, 6), 15);
        Due.be("the first minute", x.knows(0, -1), 6);
        Due.be("from 3", x.knows(3, -1), 7);
        Due.be("to 1 and 3 from 2", x.knows(2, 5), 14);
        Due.be("from 2", x.knows(2, -1), 6);
        x.mend(3, 1, 4);
        Due.be("not all", x.knows(0, -1), -2);
        Due.be("behind 99", x.knows(0, 99), 7);
        Due.be("k 100", x.knows(0, 100), -1);
        Due.be("k -2", x.knows(0, -2), -1);
        Due.be("no guest", x.knows(4, 0), -1);
        Due.be("no guest -1", x.knows(-1, 0), -1);
        Due.be("one alone knows at once", withGuests(1).knows(0, -1), 0);
        GoodbyeAll late = new GoodbyeAll();
        late.guest(0, 0);
        late.guest(10, 99);
        Due.be("in minute 99", late.knows(0, -1), 99);
        Due.be("not in minute 98", late.knows(0, 98), 1);
    }

    private static void knowsBeyond99() {
        GoodbyeAll x = new GoodbyeAll();
        x.guest(0, 0);
        x.guest(20, 99);
        Due.be("in minute 99", x.knows(0, -1), 99);
        for (int g = 2; g < 10; g++) {
            x.guest(0, 0);
            Due.be("a chain of " + (g + 1), x.knows(0, -1), 98 + g);
        }
        Due.be("behind 99: two", x.knows(0, 99), 3);
        Due.be("k 100", x.knows(0, 100), -1);
        Due.be("from the other end", x.knows(9, -1), 100);
        Due.be("from the one who comes late", x.knows(1, -1), 106);
        Due.be("from the middle", x.knows(5, -1), 100);
        x.mend(9, 1, 3);
        x.mend(9, 2, 99);
        Due.be("the last one has gone by then", x.knows(0, -1), -2);
        x.mend(9, 1, 0);
        Due.be("and stays", x.knows(0, -1), 107);
        x.mend(6, 0, 4);
        x.mend(6, 1, 4);
        Due.be("the chain is broken", x.knows(0, -1), -2);
        Due.be("from behind the break", x.knows(9, -1), -2);
    }
}
