import java.util.Random;

/** No call throws, whatever it is told in whatever state; and the same calls give the same answers. */
public final class NeverThrowsTest {
    private static final int CALLS = 512;
    private static final int[] FAR = {Integer.MIN_VALUE, Integer.MIN_VALUE + 1, -1000, -3, -2, -1, 60, 61, 99, 100, 119,
        120, 255, 256, 499, 500, 999, 1000, 49930, 50000, Integer.MAX_VALUE - 1, Integer.MAX_VALUE};

    public static void main(String[] args) {
        for (int seed = 0; seed < 600; seed++) {
            long first = run(seed);
            if (seed % 10 == 0) {
                Due.be("run " + seed + " once more", run(seed), first);
            }
        }
        Due.close();
    }

    private static long run(int seed) {
        Random random = new Random(seed);
        GoodbyeAll x = new GoodbyeAll();
        int wild = seed % 4 == 0 ? 3 : 12;
        long all = 0;
        for (int i = 0; i < CALLS; i++) {
            long answer;
            int call = random.nextInt(48);
            try {
                answer = ask(x, call, random, wild);
            } catch (RuntimeException | StackOverflowError e) {
                Due.holds("run " + seed + ", call " + i + " of kind " + call + " throws " + e, false);
                return 0;
            }
            all = all * 31 + answer;
        }
        Due.holds("run " + seed, true);
        return all;
    }

    private static int v(Random random, int wild, int most) {
        return random.nextInt(wild) == 0 ? FAR[random.nextInt(FAR.length)] : random.nextInt(most + 1);
    }

    private static int rm(Random random, int wild) {
        return random.nextInt(wild) == 0 ? FAR[random.nextInt(FAR.length)] : random.nextInt(500);
    }

    private static int two(Random random, int wild, int most) {
        return 10 * v(random, wild * 2, most) + v(random, wild * 2, most);
    }

    private static final String LETTERS = "tnahm0123456789()!-+*/%<>=&|;?";

    private static long ask(GoodbyeAll x, int call, Random r, int w) {
        switch (call) {
            case 0: return x.guest(two(r, w, 4), v(r, w, 99));
            case 1: return x.guests(v(r, w, 5), v(r, w, 9), v(r, w, 10));
            case 2: case 40: return x.mend(v(r, w, 9), v(r, w, 7), v(r, w, 9));
            case 3: return x.of(v(r, w, 9), v(r, w, 7));
            case 4: return x.at(v(r, w, 9), v(r, w, 999));
            case 5: return x.in(v(r, w, 4), v(r, w, 999));
            case 6: return x.feed(r.nextInt(w) == 0 ? v(r, 2, 255) : LETTERS.charAt(r.nextInt(LETTERS.length())));
            case 7: return r.nextInt(3) == 0 ? Due.law(x, new LawMaker(r.nextInt()).law().text) : x.law();
            case 8: return x.round(v(r, w, 5), rm(r, w), v(r, w, 2));
            case 9: return x.soonest(rm(r, w), v(r, w, 6) - 1);
            case 10: return r.nextInt(8) == 0 ? x.beginBy(v(r, w, 4), v(r, w, 200)) : 0;
            case 11: return x.slip(rm(r, w), v(r, w, 1));
            case 12: return x.pair(two(r, w, 5), two(r, w, 4), v(r, w, 99), v(r, w, 1));
            case 13: return x.coats(v(r, w, 5), v(r, w, 9));
            case 14: return x.order(two(r, w, 5));
            case 15: return x.end(v(r, w, 9), v(r, w, 1));
            case 16: return x.yawn();
            case 17: return x.clear();
            case 18: return x.knows(v(r, w, 9), v(r, w, 100) - 1);
            case 19: return x.drawn(r.nextInt(), 100 * rm(r, w) + v(r, w, 30), v(r, w, 1));
            case 20: return x.judge(v(r, w, 5), rm(r, w));
            case 21: return x.go(v(r, w, 4));
            case 22: return x.goodbye();
            case 23: return x.stay(v(r, w, 99));
            case 24: return x.leave();
            case 25: return x.led(v(r, w, 5));
            case 26: return x.image();
            case 27: return x.back();
            case 28: return x.undo();
            case 29: return x.redo();
            case 30: return x.body(v(r, w, 7));
            case 31: return x.act(v(r, w, 9), v(r, w, 3), r.nextInt());
            case 32: return x.trace(v(r, w, 24));
            case 33: return x.keep(v(r, w, 5), v(r, w, 9) - 1);
            case 34: return x.row(v(r, w, 5), r.nextInt(2) == 0 ? 0 : v(r, w, 4), v(r, w, 60));
            case 35: case 41: case 42: case 43: case 44: return x.put(v(r, w, 5), v(r, w, 30), v(r, w, 9));
            case 36: return x.element(v(r, w, 5), v(r, w, 59));
            case 37: return x.shift(v(r, w, 5), v(r, w, 20), v(r, w, 5), v(r, w, 20), v(r, w, 20));
            case 38: return x.taken(v(r, w, 5), v(r, w, 7));
            default: return x.count(v(r, w, 5));
        }
    }
}
