/** Counts the answers that are not the ones due. */
final class Due {
    private static int asked = 0;
    private static int wrong = 0;
    private static String heading = "";

    private Due() {
    }

    /** What the answers from here on are asked about. */
    static void about(String what) {
        heading = what + ": ";
    }

    static int wrong() {
        return wrong;
    }

    static void be(String call, long got, long want) {
        asked++;
        if (got != want) {
            wrong++;
            if (wrong <= 40) {
                System.out.println(heading + call + " answered " + got + ", due is " + want);
            }
        }
    }

    static void holds(String what, boolean so) {
        be(what, so ? 1 : 0, 1);
    }

    /** Feeds a text to the tape and makes it the law: what law() answers. */
    static int law(GoodbyeAll x, String text) {
        for (int i = 0; i < text.length(); i++) {
            x.feed(text.charAt(i));
        }
        return x.law();
    }

    /** Puts a row of bytes on a shelf. */
    static void bytes(GoodbyeAll x, int shelf, int... values) {
        be("row of " + values.length, x.row(shelf, 0, values.length), 1);
        for (int i = 0; i < values.length; i++) {
            be("put " + i, x.put(shelf, i, values[i]), 1);
        }
    }

    static void close() {
        System.out.println(asked + " answers, " + wrong + " wrong");
        if (wrong > 0 || asked == 0) {
            System.exit(1);
        }
    }
}
