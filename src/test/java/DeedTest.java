/** Promises 23 to 31: in deed, the image, what is undone and done again. */
public final class DeedTest {
    public static void main(String[] args) {
        evening();
        leave();
        image();
        undo();
        forty();
        fortyOfAll();
        Due.close();
    }

    private static void led(GoodbyeAll x, String when, int... due) {
        for (int what = 0; what < due.length; what++) {
            Due.be(when + ": led " + what, x.led(what), due[what]);
        }
    }

    private static void evening() {
        GoodbyeAll x = new GoodbyeAll();
        x.guest(11, 0);
        x.guest(13, 10);
        x.guest(33, 0);
        x.mend(2, 5, 1);
        x.mend(0, 7, 2);
        Due.be("go(5)", x.go(5), -1);
        Due.be("go(-1)", x.go(-1), -1);
        Due.be("go(3)", x.go(3), 4);
        Due.be("only the HOST is there", x.goodbye(), 0);
        led(x, "no goodbye", 4, 3, 0, 0, 0, 0);
        Due.be("go(1)", x.go(1), 6);
        Due.be("both", x.goodbye(), 3);
        led(x, "a goodbye", 10, 1, 3, 1, 0, 0);
        Due.be("none is left there", x.goodbye(), 0);
        Due.be("the same room", x.go(1), 10);
        Due.be("leave elsewhere", x.leave(), -5);
        Due.be("stay(0)", x.stay(0), -1);
        Due.be("stay(100)", x.stay(100), -1);
        Due.be("stay(-5)", x.stay(-5), -1);
        Due.be("stay(99)", x.stay(99), 109);
        Due.be("stay(1)", x.stay(1), 110);
        Due.be("go(3)", x.go(3), 112);
        Due.be("the HOST alone", x.goodbye(), 4);
        led(x, "the HOST", 115, 3, 7, 2, 0, 0);
        Due.be("go(0)", x.go(0), 119);
        Due.be("leave", x.leave(), 1);
        led(x, "a new evening", 0, 0, 0, 2, 1, 1);
        Due.be("led(6)", x.led(6), -1);
        Due.be("led(-1)", x.led(-1), -1);
        Due.law(x, "n*10+m");
        x.go(1);
        Due.be("by the law", x.goodbye(), 3);
        led(x, "by the law", 2 + 22, 1, 3, 3, 1, 1);
    }

    private static void leave() {
        GoodbyeAll x = new GoodbyeAll();
        Due.be("nobody must be told", x.leave(), 1);
        x.guest(0, 0);
        Due.be("one is missed", x.leave(), 0);
        led(x, "two evenings", 0, 0, 0, 0, 1, 2);
        x.goodbye();
        x.stay(5);
        Due.be("told", x.leave(), 1);
        led(x, "three evenings", 0, 0, 0, 1, 2, 3);
        x.mend(0, 4, 0);
        Due.be("it need not be", x.leave(), 1);
    }

    private static void image() {
        GoodbyeAll x = new GoodbyeAll();
        Due.be("none", x.back(), -5);
        x.guest(0, 0);
        x.guest(11, 0);
        x.goodbye();
        x.leave();
        x.goodbye();
        x.go(1);
        Due.be("image", x.image(), 4);
        x.goodbye();
        x.go(0);
        x.leave();
        x.leave();
        x.mend(0, 3, 7);
        led(x, "later on", 0, 0, 0, 3, 1, 3);
        Due.be("back", x.back(), 4);
        led(x, "laid back", 4, 1, 1, 2, 0, 1);
        Due.be("the changes stay", x.of(0, 3), 7);
        Due.be("they may be undone", x.count(3), 1);
        x.stay(9);
        Due.be("back again", x.back(), 4);
        Due.be("goodbye once more", x.goodbye(), 2);
        Due.be("another image", x.image(), 7);
        x.stay(1);
        Due.be("back to the other", x.back(), 7);
        led(x, "the other", 7, 1, 3, 3, 0, 1);
    }

    private static void undo() {
        GoodbyeAll x = new GoodbyeAll();
        Due.be("undo none", x.undo(), -5);
        Due.be("redo none", x.redo(), -5);
        x.guest(12, 30);
        int[] v = {3, 4, 40, 5, 0, 1, 6, 7};
        int[] was = {1, 2, 30, 2, 1, 0, 11, 1};
        for (int what = 0; what < 8; what++) {
            x.mend(0, what, v[what]);
            Due.be("the same is none", x.mend(0, what, v[what]), v[what]);
            Due.be("count", x.count(3), what + 1);
        }
        Due.be("a bad one is none", x.mend(0, 0, 5), -1);
        Due.be("count", x.count(3), 8);
        for (int what = 7; what >= 0; what--) {
            Due.be("ahead of undo " + what, x.of(0, what), v[what]);
            Due.be("undo " + what, x.undo(), what);
            Due.be("behind undo " + what, x.of(0, what), was[what]);
        }
        Due.be("no more", x.undo(), -5);
        Due.be("where it was", x.in(1, 29), 1);
        Due.be("who is missed", x.count(1), 1);
        for (int what = 0; what < 8; what++) {
            Due.be("redo " + what, x.redo(), 7 - what);
            Due.be("behind redo " + what, x.of(0, what), v[what]);
        }
        Due.be("no more", x.redo(), -5);
        Due.be("where it is", x.in(3, 39), 1);
        Due.be("where it goes", x.in(4, 40), 1);
        Due.be("who must be told", x.count(1), 0);
        x.undo();
        x.undo();
        x.guest(0, 0);
        x.mend(0, 3, 5);
        x.go(1);
        Due.be("a guest, the same number and deeds are no changes", x.redo(), 1);
        x.mend(1, 3, 9);
        Due.be("another change came", x.redo(), -5);
        Due.be("of its own", x.undo(), 7);
        Due.be("it was 2", x.of(1, 3), 2);
        Due.be("LEAVES was done again", x.of(0, 6), 6);
        Due.be("WAY was not", x.of(0, 7), 1);
    }

    private static void forty() {
        GoodbyeAll x = new GoodbyeAll();
        x.guest(0, 0);
        for (int i = 1; i <= 45; i++) {
            x.mend(0, 2, i);
            Due.be("kept", x.count(3), Math.min(i, 40));
        }
        for (int i = 39; i >= 0; i--) {
            Due.be("undo", x.undo(), i);
        }
        Due.be("no more than 40", x.undo(), -5);
        Due.be("as it was by the fifth", x.of(0, 2), 5);
        for (int i = 39; i >= 0; i--) {
            Due.be("redo", x.redo(), i);
        }
        Due.be("as it was at last", x.of(0, 2), 45);
        Due.be("no more", x.redo(), -5);
    }

    /** Forty-three changes of all sorts, back and forth: what is kept of each is its own. */
    private static void fortyOfAll() {
        GoodbyeAll x = new GoodbyeAll();
        int[] now = {0, 0, 50, 2, 1, 0, 11, 1};
        for (int g = 0; g < 4; g++) {
            x.guest(0, 50);
        }
        int[][] facts = {now.clone(), now.clone(), now.clone(), now.clone()};
        int[][] changes = new int[43][];
        for (int i = 0; i < changes.length; i++) {
            int number = i * 3 % 4;
            int what = i * 5 % 8;
            int v = what == 4 || what == 5 ? 1 - facts[number][what] : facts[number][what] % 4 + 1;
            changes[i] = new int[] {number, what, facts[number][what], v};
            Due.be("change " + i, x.mend(number, what, v), facts[number][what]);
            facts[number][what] = v;
        }
        for (int i = 42; i >= 3; i--) {
            Due.be("undo", x.undo(), i - 3);
            Due.be("undone " + i, x.of(changes[i][0], changes[i][1]), changes[i][2]);
        }
        for (int i = 3; i < 43; i++) {
            Due.be("redo", x.redo(), 42 - i);
            Due.be("done again " + i, x.of(changes[i][0], changes[i][1]), changes[i][3]);
        }
        for (int number = 0; number < 4; number++) {
            for (int what = 0; what < 8; what++) {
                Due.be("at last", x.of(number, what), facts[number][what]);
            }
        }
    }
}
