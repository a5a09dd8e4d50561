import java.util.ArrayList;
import java.util.List;

/** Promises 32 to 34, and of 41 what is told of bodies: acts that come from above, by classes that Java itself has. */
public final class BodiesTest {
    static final List<Integer> RAN = new ArrayList<>();

    interface Says {
        int n();

        default int says(int x) {
            RAN.add(1);
            return x + n();
        }
    }

    interface Tells {
        int stays(int x);

        int turns(int x);

        default int tells(int x) {
            RAN.add(2);
            return stays(x) - turns(1);
        }
    }

    static class Parting implements Says, Tells {
        final int n;

        Parting(int n) {
            this.n = n;
        }

        public int n() {
            return n;
        }

        public int stays(int x) {
            RAN.add(10);
            return says(x) * 2;
        }

        public int turns(int x) {
            RAN.add(11);
            return x ^ n;
        }
    }

    static class Begun extends Parting {
        Begun(int n) {
            super(n);
        }

        public int says(int x) {
            RAN.add(20);
            return super.says(x) + 3;
        }
    }

    static class Joined extends Parting {
        Joined(int n) {
            super(n);
        }

        public int stays(int x) {
            RAN.add(30);
            return -super.stays(x);
        }
    }

    static class Again extends Joined {
        Again(int n) {
            super(n);
        }

        public int turns(int x) {
            RAN.add(40);
            return super.turns(x) * 3;
        }

        public int stays(int x) {
            RAN.add(41);
            return super.stays(x + 1);
        }
    }

    static class Slipped extends Begun {
        Slipped(int n) {
            super(n);
        }

        public int tells(int x) {
            RAN.add(50);
            return super.tells(x) ^ 5;
        }
    }

    static class Found extends Again {
        Found(int n) {
            super(n);
        }

        public int turns(int x) {
            RAN.add(60);
            return super.turns(x) - says(2);
        }

        public int tells(int x) {
            RAN.add(61);
            return super.tells(x) + 1;
        }
    }

    static class Missed extends Parting {
        Missed(int n) {
            super(n);
        }

        public int says(int x) {
            RAN.add(70);
            return super.says(x) * 2;
        }
    }

    static class Last extends Missed {
        Last(int n) {
            super(n);
        }

        public int stays(int x) {
            RAN.add(80);
            return super.stays(x) + turns(2);
        }

        public int says(int x) {
            RAN.add(81);
            return super.says(x) - 1;
        }
    }

    static Parting made(int kind, int n) {
        switch (kind) {
            case 0: return new Parting(n);
            case 1: return new Begun(n);
            case 2: return new Joined(n);
            case 3: return new Again(n);
            case 4: return new Slipped(n);
            case 5: return new Found(n);
            case 6: return new Missed(n);
            default: return new Last(n);
        }
    }

    static int act(Parting body, int act, int x) {
        RAN.clear();
        switch (act) {
            case 0: return body.says(x);
            case 1: return body.stays(x);
            case 2: return body.turns(x);
            default: return body.tells(x);
        }
    }

    public static void main(String[] args) {
        acts();
        kept();
        Due.close();
    }

    private static void acts() {
        int[] xs = {0, 1, -1, 5, 1000003, Integer.MAX_VALUE, Integer.MIN_VALUE};
        for (int kind = 0; kind < 8; kind++) {
            for (int before = 0; before < 50; before += 7) {
                GoodbyeAll x = new GoodbyeAll();
                for (int i = 0; i < before; i++) {
                    x.body(i % 8);
                }
                Due.be("body", x.body(kind), before);
                Parting due = made(kind, before);
                for (int k = 0; k < xs.length; k++) {
                    int act = k % 4;
                    alike(x, due, before, act, xs[k]);
                    alike(x, due, before, (act + 2) % 4, xs[k]);
                }
            }
        }
    }

    private static void alike(GoodbyeAll x, Parting due, int body, int act, int v) {
        Due.be("act " + act + " of " + due.getClass() + " " + body + " by " + v, x.act(body, act, v), act(due, act, v));
        Due.be("how many ran", x.count(5), RAN.size());
        for (int i = 0; i < RAN.size(); i++) {
            Due.be("trace " + i, x.trace(i), RAN.get(i));
        }
        Due.be("trace behind", x.trace(RAN.size()), -1);
    }

    private static void kept() {
        GoodbyeAll x = new GoodbyeAll();
        Due.be("body(8)", x.body(8), -1);
        Due.be("body(-1)", x.body(-1), -1);
        for (int i = 0; i < 50; i++) {
            Due.be("body", x.body(i % 8), i);
            Due.be("count", x.count(4), i + 1);
        }
        Due.be("the 51st", x.body(0), -3);
        Due.be("bad ahead of full", x.body(8), -1);
        Due.be("count", x.count(4), 50);
        Due.be("an act", x.act(48, 1, 5), 106);
        Due.be("its trace", x.trace(0), 10);
        Due.be("then", x.trace(1), 1);
        Due.be("trace(-1)", x.trace(-1), -1);
        Due.be("trace(2)", x.trace(2), -1);
        Due.be("trace(far)", x.trace(Integer.MAX_VALUE), -1);
        int[][] none = {{50, 0}, {-1, 0}, {0, 4}, {0, -1}};
        for (int[] call : none) {
            x.act(0, 0, 1);
            Due.be("one ran", x.count(5), 1);
            Due.be("no such BODY or ACT", x.act(call[0], call[1], 3), 0);
            Due.be("no TRACE then", x.trace(0), -1);
            Due.be("none ran", x.count(5), 0);
        }
    }
}
