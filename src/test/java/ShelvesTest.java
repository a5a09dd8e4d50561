/** Promises 35 to 41: shelves, rows, what is taken and how many. */
public final class ShelvesTest {
    public static void main(String[] args) {
        keep();
        row();
        put();
        shift();
        taken();
        count();
        Due.close();
    }

    private static void keep() {
        GoodbyeAll x = new GoodbyeAll();
        Due.be("no BODY yet", x.keep(0, 0), -1);
        x.body(3);
        Due.be("keep", x.keep(0, 0), 1);
        Due.be("its KIND", x.taken(0, 0), 3);
        Due.be("BODY 1", x.keep(0, 1), -1);
        Due.be("BODY -2", x.keep(0, -2), -1);
        Due.be("shelf 6", x.keep(6, 0), -1);
        Due.be("shelf -1", x.keep(-1, -1), -1);
        Due.be("it stays", x.taken(0, 0), 3);
        Due.be("nothing", x.keep(0, -1), 1);
        Due.be("nothing there", x.taken(0, 0), -11);
        x.row(5, 0, 4);
        Due.be("a BODY in a ROW's stead", x.keep(5, 0), 1);
        Due.be("no ROW", x.put(5, 0, 1), -12);
        x.keep(5, -1);
        Due.be("nothing to put in", x.put(5, 0, 1), -11);
    }

    private static void row() {
        GoodbyeAll x = new GoodbyeAll();
        Due.be("sort 5", x.row(0, 5, 1), -1);
        Due.be("sort -1", x.row(0, -1, 1), -1);
        Due.be("n 61", x.row(0, 0, 61), -1);
        Due.be("n far", x.row(0, 0, Integer.MAX_VALUE), -1);
        Due.be("n -1", x.row(0, 0, -1), -14);
        Due.be("n far below", x.row(0, 0, Integer.MIN_VALUE), -14);
        Due.be("BAD ahead of -14", x.row(0, 5, -1), -1);
        Due.be("shelf 6", x.row(6, 0, 1), -1);
        Due.be("shelf -1", x.row(-1, 0, -1), -1);
        Due.be("nothing is there", x.put(0, 0, 1), -11);
        for (int sort = 0; sort < 5; sort++) {
            Due.be("sort " + sort, x.row(0, sort, 60), 1);
            Due.be("the first", x.element(0, 0), 0);
            Due.be("the last", x.element(0, 59), 0);
            Due.be("behind", x.element(0, 60), Long.MIN_VALUE);
            x.put(0, 0, -1);
            x.put(0, 59, -1);
        }
        Due.be("an empty one", x.row(0, 0, 0), 1);
        Due.be("no element", x.put(0, 0, 1), -13);
        x.row(0, 2, 3);
        Due.be("zeros again", x.element(0, 2), 0);
        x.put(0, 2, 7);
        x.row(0, -1, 3);
        x.row(0, 2, -3);
        Due.be("refused, it stays", x.element(0, 2), 7);
    }

    private static void put() {
        GoodbyeAll x = new GoodbyeAll();
        long[] values = {0, 1, -1, 127, 128, 255, 256, -129, 300, 32767, 32768, 65536, 2147483647L, 2147483648L,
            4294967296L, 1L << 40, Long.MAX_VALUE, Long.MIN_VALUE + 1};
        for (int sort = 0; sort < 5; sort++) {
            x.row(sort, sort, 3);
            for (long v : values) {
                long[] due = {(byte) v, (short) v, (int) v, v, v == 0 ? 0 : 1};
                Due.be("put", x.put(sort, 1, v), 1);
                Due.be("element of sort " + sort + " as " + v, x.element(sort, 1), due[sort]);
            }
            Due.be("the one ahead", x.element(sort, 0), 0);
            Due.be("the one behind", x.element(sort, 2), 0);
        }
        x.put(3, 0, Long.MIN_VALUE);
        Due.be("the least long", x.element(3, 0), Long.MIN_VALUE);
        x.put(4, 0, Long.MIN_VALUE);
        Due.be("true", x.element(4, 0), 1);
        int[] badPlaces = {-1, 3, 60, Integer.MAX_VALUE, Integer.MIN_VALUE};
        for (int i : badPlaces) {
            Due.be("put at " + i, x.put(0, i, 1), -13);
            Due.be("element at " + i, x.element(0, i), Long.MIN_VALUE);
        }
        Due.be("put shelf 6", x.put(6, 0, 1), -1);
        Due.be("put shelf -1", x.put(-1, 0, 1), -1);
        Due.be("element of shelf 6", x.element(6, 0), Long.MIN_VALUE);
        Due.be("element of shelf -1", x.element(-1, 0), Long.MIN_VALUE);
        Due.be("put on nothing", x.put(5, -1, 1), -11);
        Due.be("element of nothing", x.element(5, 0), Long.MIN_VALUE);
        x.body(0);
        x.keep(5, 0);
        Due.be("put on a BODY", x.put(5, -1, 1), -12);
        Due.be("element of a BODY", x.element(5, 0), Long.MIN_VALUE);
    }

    private static void elements(GoodbyeAll x, int shelf, long... due) {
        for (int i = 0; i < due.length; i++) {
            Due.be("element " + i + " of shelf " + shelf, x.element(shelf, i), due[i]);
        }
    }

    private static void shift() {
        GoodbyeAll x = new GoodbyeAll();
        Due.bytes(x, 0, 1, 2, 3, 4, 5);
        x.row(1, 0, 3);
        Due.be("to another", x.shift(0, 1, 1, 0, 3), 3);
        elements(x, 1, 2, 3, 4);
        elements(x, 0, 1, 2, 3, 4, 5);
        Due.be("up within the same", x.shift(0, 0, 0, 1, 4), 4);
        elements(x, 0, 1, 1, 2, 3, 4);
        Due.be("down within the same", x.shift(0, 1, 0, 0, 4), 4);
        elements(x, 0, 1, 2, 3, 4, 4);
        Due.be("none", x.shift(0, 5, 1, 3, 0), 0);
        int[][] places = {{-1, 0, 1}, {0, -1, 1}, {0, 0, -1}, {0, 0, 4}, {3, 0, 3}, {0, 2, 2}, {6, 0, 0}, {0, 4, 0},
            {Integer.MAX_VALUE, 0, 1}, {0, Integer.MAX_VALUE, 1}, {1, 1, Integer.MAX_VALUE},
            {Integer.MIN_VALUE, 0, 0}, {0, 0, Integer.MIN_VALUE}};
        for (int[] p : places) {
            Due.be("no place " + p[0] + " " + p[1] + " " + p[2], x.shift(0, p[0], 1, p[1], p[2]), -13);
        }
        elements(x, 1, 2, 3, 4);
        x.row(2, 1, 5);
        Due.be("unlike sorts", x.shift(0, 0, 2, 0, 1), -12);
        Due.be("-12 ahead of -13", x.shift(0, -1, 2, 0, 1), -12);
        x.body(0);
        x.keep(3, 0);
        Due.be("from a BODY", x.shift(3, 0, 0, 0, 1), -12);
        Due.be("to a BODY", x.shift(0, 0, 3, 0, 1), -12);
        Due.be("BODY to BODY", x.shift(3, 0, 3, 0, 1), -12);
        Due.be("from nothing", x.shift(4, 0, 0, 0, 1), -11);
        Due.be("to nothing", x.shift(0, 0, 4, 0, 1), -11);
        Due.be("-11 ahead of -12", x.shift(3, 0, 4, 0, 1), -11);
        Due.be("shelf 6", x.shift(6, 0, 4, 0, 1), -1);
        Due.be("other -1", x.shift(4, 0, -1, 0, 1), -1);
        x.row(5, 3, 2);
        x.put(5, 0, Long.MAX_VALUE);
        Due.be("longs", x.shift(5, 0, 5, 1, 1), 1);
        elements(x, 5, Long.MAX_VALUE, Long.MAX_VALUE);
    }

    private static void taken() {
        int[] above = {-1, 0, 0, 2, 1, 3, 0, 6};
        GoodbyeAll x = new GoodbyeAll();
        for (int kind = 0; kind < 8; kind++) {
            x.keep(0, x.body(kind));
            for (int k = 0; k < 8; k++) {
                boolean under = false;
                for (int up = kind; up >= 0; up = above[up]) {
                    under |= up == k;
                }
                Due.be("a BODY of KIND " + kind + " for " + k, x.taken(0, k), under ? kind : -12);
            }
        }
        Due.be("KIND 8", x.taken(0, 8), -1);
        Due.be("KIND -1", x.taken(0, -1), -1);
        Due.be("shelf 6", x.taken(6, 0), -1);
        Due.be("shelf -1", x.taken(-1, 0), -1);
        Due.be("nothing", x.taken(1, 0), -11);
        x.row(1, 0, 1);
        Due.be("a ROW", x.taken(1, 0), -12);
        Due.be("BAD ahead of -12", x.taken(1, 8), -1);
    }

    private static void count() {
        GoodbyeAll x = new GoodbyeAll();
        x.guest(0, 0);
        x.guest(0, 0);
        x.guest(0, 0);
        x.mend(1, 4, 0);
        x.feed('1');
        x.body(0);
        x.act(0, 3, 0);
        x.goodbye();
        int[] due = {3, 2, 1, 1, 1, 4};
        for (int what = 0; what < 6; what++) {
            Due.be("count " + what, x.count(what), due[what]);
        }
        Due.be("count 6", x.count(6), -1);
        Due.be("count -1", x.count(-1), -1);
    }
}
