/** Promises 1 to 7: a new object, guests, what is mended and where they are. */
public final class GuestsTest {
    public static void main(String[] args) {
        newObject();
        guest();
        guestsFromARow();
        mend();
        where();
        Due.close();
    }

    private static void newObject() {
        GoodbyeAll x = new GoodbyeAll();
        for (int what = 0; what < 6; what++) {
            Due.be("new: count " + what, x.count(what), 0);
            Due.be("new: led " + what, x.led(what), 0);
        }
        for (int room = 0; room < 5; room++) {
            Due.be("new: in " + room, x.in(room, 0), 0);
        }
        for (int way = 0; way < 4; way++) {
            Due.be("new: way " + way, x.of(way, 7), 1);
        }
        for (int shelf = 0; shelf < 6; shelf++) {
            Due.be("new: shelf " + shelf, x.taken(shelf, 0), -11);
        }
        Due.be("new: no guest", x.of(0, 0), -1);
        Due.be("new: no image", x.back(), -5);
    }

    private static void guest() {
        GoodbyeAll x = new GoodbyeAll();
        int[] bad = {-1, 5, 9, 50, 45, 54, 100, -10, -44, Integer.MIN_VALUE, Integer.MAX_VALUE};
        for (int ab : bad) {
            Due.be("guest(" + ab + ", 3)", x.guest(ab, 3), -1);
        }
        Due.be("changes 100", x.guest(0, 100), -1);
        Due.be("changes -1", x.guest(0, -1), -1);
        Due.be("none came", x.count(0), 0);
        for (int g = 0; g < 10; g++) {
            Due.be("guest " + g, x.guest(g * 11 % 50 % 10 > 4 ? 43 : g * 11 % 50, g * 11), g);
        }
        Due.be("the 11th", x.guest(0, 0), -3);
        Due.be("a bad 11th", x.guest(5, 0), -1);
        Due.be("count", x.count(0), 10);
        int[] atFirst = {0, 0, 0, 2, 1, 0, 11};
        for (int what = 0; what < 7; what++) {
            Due.be("of(0, " + what + ")", x.of(0, what), atFirst[what]);
        }
        Due.be("of(1, 0)", x.of(1, 0), 1);
        Due.be("of(9, 2)", x.of(9, 2), 99);
        Due.be("a guest is no change", x.count(3), 0);
    }

    private static void guestsFromARow() {
        GoodbyeAll x = new GoodbyeAll();
        Due.be("missing", x.guests(0, 0, 1), 0);
        Due.be("missing, below", x.guests(0, -1, 1), 0);
        x.row(1, 2, 9);
        Due.be("ints", x.guests(1, 0, 1), -12);
        x.body(0);
        x.keep(2, 0);
        Due.be("a body", x.guests(2, 0, 1), -12);
        Due.be("bad n ahead of -12", x.guests(2, 0, 0), -1);
        Due.bytes(x, 0, 1, 2, 9, 3, 4, 0, 0, 0);
        Due.be("shelf 6", x.guests(6, 0, 1), -1);
        Due.be("shelf -1", x.guests(-1, 0, 1), -1);
        Due.be("n 11", x.guests(0, 0, 11), -1);
        Due.be("n -1", x.guests(0, 0, -1), -1);
        Due.be("i below 0", x.guests(0, -3, 2), 0);
        Due.be("i far below 0", x.guests(0, Integer.MIN_VALUE, 10), 0);
        Due.be("i far", x.guests(0, Integer.MAX_VALUE, 10), 0);
        Due.be("i behind", x.guests(0, 8, 1), 0);
        Due.be("within a three", x.guests(0, 6, 1), 0);
        Due.be("none came", x.count(0), 0);
        Due.be("two, then it ends within a three", x.guests(0, 0, 5), 2);
        int[][] facts = {{1, 2, 50, 9, 1, 0, 11}, {3, 4, 50, 0, 1, 0, 11}};
        for (int g = 0; g < 2; g++) {
            for (int what = 0; what < 7; what++) {
                Due.be("of(" + g + ", " + what + ")", x.of(g, what), facts[g][what]);
            }
        }
        Due.be("no more than n", x.guests(0, 0, 1), 1);
        Due.be("from place 3 on", x.guests(0, 3, 1), 1);
        Due.be("its room", x.of(3, 0), 3);
        Due.be("no change", x.count(3), 0);
        Due.bytes(x, 3, 0, 0, 10, 0, 5, 1, 5, 0, 1, 0, 0, -1, -1, 0, 0, 0, -1, 0);
        for (int i = 0; i < 18; i += 3) {
            Due.be("not as it may be, from " + i, x.guests(3, i, 1), 0);
        }
        x.row(4, 0, 60);
        Due.be("six more are all", x.guests(4, 0, 10), 6);
        Due.be("full", x.guests(4, 0, 10), 0);
        Due.be("count", x.count(0), 10);
    }

    private static void mend() {
        GoodbyeAll x = new GoodbyeAll();
        int[] least = {0, 0, 0, 0, 0, 0, 1, 1};
        int[] greatest = {4, 4, 99, 9, 1, 1, 11, 9};
        int[] was = {1, 2, 20, 2, 1, 0, 11, 1};
        Due.be("no guest yet", x.mend(0, 3, 3), -1);
        x.guest(12, 20);
        for (int what = 0; what < 8; what++) {
            String call = "mend(0, " + what + ", ";
            Due.be(call + "below)", x.mend(0, what, least[what] - 1), -1);
            Due.be(call + "above)", x.mend(0, what, greatest[what] + 1), -1);
            Due.be(call + "far)", x.mend(0, what, Integer.MIN_VALUE), -1);
            Due.be(call + "least)", x.mend(0, what, least[what]), was[what]);
            Due.be("of(0, " + what + ")", x.of(0, what), least[what]);
            Due.be(call + "greatest)", x.mend(0, what, greatest[what]), least[what]);
            Due.be("of(0, " + what + ")", x.of(0, what), greatest[what]);
        }
        int[] badWhats = {-1, 8, Integer.MAX_VALUE};
        for (int what : badWhats) {
            Due.be("mend what " + what, x.mend(0, what, 1), -1);
            Due.be("of what " + what, x.of(0, what), -1);
        }
        Due.be("guest 1", x.mend(1, 0, 0), -1);
        Due.be("guest -1", x.mend(-1, 0, 0), -1);
        Due.be("of guest 1", x.of(1, 0), -1);
        Due.be("of guest -1", x.of(-1, 0), -1);
        Due.be("way 3", x.mend(3, 7, 5), 1);
        Due.be("of way 3", x.of(3, 7), 5);
        Due.be("way 4", x.mend(4, 7, 5), -1);
        Due.be("way -1", x.of(-1, 7), -1);
        Due.be("of way 4", x.of(4, 7), -1);
    }

    private static void where() {
        GoodbyeAll x = new GoodbyeAll();
        x.guest(31, 40);
        x.guest(3, 0);
        x.guest(33, 99);
        Due.be("at first", x.at(0, 0), 3);
        Due.be("ahead of the change", x.at(0, 39), 3);
        Due.be("from the change on", x.at(0, 40), 1);
        Due.be("at last", x.at(0, 999), 1);
        Due.be("changes at 0", x.at(1, 0), 3);
        Due.be("minute 1000", x.at(0, 1000), -1);
        Due.be("minute -1", x.at(0, -1), -1);
        Due.be("guest 3", x.at(3, 0), -1);
        Due.be("guest -1", x.at(-1, 0), -1);
        Due.be("in 3 at 39", x.in(3, 39), 7);
        Due.be("in 3 at 40", x.in(3, 40), 6);
        Due.be("in 1 at 40", x.in(1, 40), 1);
        Due.be("in 1 at 999", x.in(1, 999), 1);
        Due.be("in 0 at 0", x.in(0, 0), 0);
        Due.be("room 5", x.in(5, 0), -1);
        Due.be("room -1", x.in(-1, 0), -1);
        Due.be("in minute 1000", x.in(0, 1000), -1);
        Due.be("in minute -1", x.in(0, -1), -1);
        x.mend(0, 2, 10);
        Due.be("mended", x.in(1, 10), 1);
        x.mend(0, 1, 2);
        Due.be("moved", x.in(1, 50), 0);
        Due.be("moved there", x.in(2, 50), 1);
        x.mend(0, 0, 4);
        Due.be("moved at first", x.in(4, 9), 1);
    }
}
