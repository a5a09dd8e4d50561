import java.util.ArrayList;
import java.util.List;

/** Which answer goes ahead of which, and that what is refused changes nothing. */
final class AnswersBoundaries {
    private static final long NONE = Long.MIN_VALUE;

    private AnswersBoundaries() {
    }

    /** A call of an object. */
    private interface Call {
        long of(GoodbyeAll x);
    }

    static void addTo(Boundaries b) {
        String several = "Answers, of several the one named first: BAD (-1): no such number, or it is not as said";
        b.add("answers: BAD ahead of NOT", several + "; NOT (-2): as told", AnswersBoundaries::badAheadOfNot);
        b.add("answers: BAD ahead of FULL", several + "; NOT (-2): as told; FULL (-3)",
            AnswersBoundaries::badAheadOfFull);
        b.add("answers: BAD ahead of -11", several + "; NOT (-2): as told; FULL (-3); STATE (-5): as told; -11 to "
            + "-14.", AnswersBoundaries::badAheadOfNothing);
        b.add("answers: BAD ahead of -12", several, AnswersBoundaries::badAheadOfKind);
        b.add("answers: BAD ahead of -13, -14", several, AnswersBoundaries::badAheadOfPlaces);
        b.add("answers: -11 ahead of -12", "-11 nothing is there where something is wanted; -12 it is of another kind",
            AnswersBoundaries::nothingAheadOfKind);
        b.add("answers: -12 ahead of -13", "-12 it is of another kind; -13 a place that is not there",
            AnswersBoundaries::kindAheadOfPlaces);
        b.add("answers: -14", "-14 a size below 0.", AnswersBoundaries::sizeBelow);
        b.add("refused: BAD", "What is answered so changes nothing.", AnswersBoundaries::badChangesNothing);
        b.add("refused: NOT", "What is answered so changes nothing.", AnswersBoundaries::notChangesNothing);
        b.add("refused: FULL", "What is answered so changes nothing.", AnswersBoundaries::fullChangesNothing);
        b.add("refused: STATE", "What is answered so changes nothing.", AnswersBoundaries::stateChangesNothing);
        b.add("refused: -11 to -14", "What is answered so changes nothing.", AnswersBoundaries::hostChangesNothing);
        b.add("memory", "All memory is the class's own.", AnswersBoundaries::ownMemory);
        b.add("512 calls", "An object is used for at most 512 calls after it has been made",
            AnswersBoundaries::lastCall);
    }

    /** A house in which no row of rooms does, with a pile, and nobody who could know. */
    private static GoodbyeAll withoutARow() {
        GoodbyeAll x = Boundaries.guestsIn(0, 1, 2, 3, 4, 0, 1, 2);
        for (int g = 5; g < 8; g++) {
            x.mend(g, 5, 1);
        }
        x.row(0, 0, 0);
        return x;
    }

    private static void badAheadOfNot() {
        GoodbyeAll x = withoutARow();
        Due.be("soonest: NOT", x.soonest(0, -1), -2);
        Due.be("soonest: rm, too", x.soonest(500, -1), -1);
        Due.be("soonest: k, too", x.soonest(0, -2), -1);
        Due.be("beginBy: NOT", x.beginBy(0, 500), -2);
        Due.be("beginBy: the ROOM, too", x.beginBy(5, 500), -1);
        Due.be("beginBy: HOME, too", x.beginBy(0, -1), -1);
        Due.be("coats: NOT", x.coats(0, 7), -2);
        Due.be("coats: the GUEST, too", x.coats(0, 8), -1);
        Due.be("knows: NOT", x.knows(7, -1), -2);
        Due.be("knows: the GUEST, too", x.knows(8, -1), -1);
        Due.be("judge: NOT", x.judge(0, 0), -2);
        Due.be("judge: rm, too", x.judge(0, 500), -1);
    }

    private static void fill(GoodbyeAll x) {
        for (int i = 0; i < 10; i++) {
            x.guest(0, 0);
        }
        for (int i = 0; i < 50; i++) {
            x.body(0);
        }
        for (int i = 0; i < 120; i++) {
            x.feed('1');
        }
    }

    private static void badAheadOfFull() {
        GoodbyeAll x = new GoodbyeAll();
        fill(x);
        Due.be("guest: FULL", x.guest(0, 0), -3);
        Due.be("guest: the ROOM, too", x.guest(5, 0), -1);
        Due.be("guest: CHANGES, too", x.guest(0, 100), -1);
        Due.be("feed: FULL", x.feed(0), -3);
        Due.be("feed: the byte, too", x.feed(256), -1);
        Due.be("body: FULL", x.body(0), -3);
        Due.be("body: the KIND, too", x.body(8), -1);
    }

    private static void badAheadOfNothing() {
        GoodbyeAll x = Boundaries.inTheHall(1);
        Call[] bad = {y -> y.round(0, 500, 0), y -> y.round(0, 0, 3), y -> y.pair(1, 50, 0, 0), y -> y.pair(1, 0, 100, 0),
            y -> y.pair(1, 0, 0, 2), y -> y.pair(6, 0, 0, 0), y -> y.pair(60, 0, 0, 0), y -> y.coats(0, 1),
            y -> y.order(6), y -> y.order(60), y -> y.judge(0, 500), y -> y.shift(6, 0, 0, 0, 0),
            y -> y.shift(0, 0, 6, 0, 0), y -> y.taken(0, 8), y -> y.put(6, 0, 0), y -> y.guests(0, -1, 11)};
        for (int i = 0; i < bad.length; i++) {
            Due.be("call " + i + " on shelves that hold nothing", bad[i].of(x), -1);
        }
    }

    private static void badAheadOfKind() {
        GoodbyeAll x = Boundaries.inTheHall(1);
        x.body(0);
        for (int sort = 0; sort < 5; sort++) {
            if (sort == 0) {
                x.keep(0, 0);
                x.keep(1, 0);
            } else {
                x.row(0, sort, 3);
                x.row(1, sort, 3);
            }
            Call[] bad = {y -> y.round(0, 500, 0), y -> y.round(0, 0, 3), y -> y.pair(1, 50, 0, 0),
                y -> y.pair(1, 0, 100, 0), y -> y.pair(1, 0, 0, 2), y -> y.pair(6, 0, 0, 0), y -> y.pair(60, 0, 0, 0),
                y -> y.coats(0, 1), y -> y.order(6), y -> y.order(60), y -> y.judge(0, 500),
                y -> y.shift(6, 0, 0, 0, 0), y -> y.shift(0, 0, 6, 0, 0), y -> y.taken(0, 8),
                y -> y.guests(0, 0, 0), y -> y.guests(0, 0, 11)};
            for (int i = 0; i < bad.length; i++) {
                Due.be("call " + i + " on what is no ROW of bytes, " + sort, bad[i].of(x), -1);
            }
        }
    }

    private static void badAheadOfPlaces() {
        GoodbyeAll x = new GoodbyeAll();
        x.row(0, 0, 3);
        Due.be("row: the sort and the size", x.row(0, 5, -1), -1);
        Due.be("row: the shelf and the size", x.row(6, 0, -1), -1);
        Due.be("put: the shelf and the place", x.put(6, -1, 0), -1);
        Due.be("shift: the shelf and the places", x.shift(6, -1, 0, -1, -1), -1);
        Due.be("shift: the other shelf and the places", x.shift(0, -1, 6, -1, -1), -1);
    }

    private static void nothingAheadOfKind() {
        GoodbyeAll x = new GoodbyeAll();
        x.row(1, 1, 3);
        x.body(0);
        x.keep(2, 0);
        for (int other = 1; other <= 2; other++) {
            Due.be("pair: nothing first", x.pair(other, 0, 0, 0), -11);
            Due.be("pair: nothing last", x.pair(10 * other, 0, 0, 0), -11);
            Due.be("order: nothing first", x.order(other), -11);
            Due.be("order: nothing last", x.order(10 * other), -11);
            Due.be("shift: nothing first", x.shift(0, 0, other, 0, 0), -11);
            Due.be("shift: nothing last", x.shift(other, 0, 0, 0, 0), -11);
        }
        Due.be("put: nothing, no place", x.put(0, -1, 0), -11);
        Due.be("shift: nothing, no place", x.shift(0, -1, 0, -1, -1), -11);
    }

    private static void kindAheadOfPlaces() {
        GoodbyeAll x = new GoodbyeAll();
        x.row(0, 0, 3);
        x.row(1, 1, 3);
        x.body(0);
        x.keep(2, 0);
        Due.be("put: a BODY, no place", x.put(2, 60, 0), -12);
        Due.be("shift: unlike sorts, no place", x.shift(0, 4, 1, 4, 1), -12);
        Due.be("shift: a BODY, no place", x.shift(0, 4, 2, 4, 1), -12);
        Due.be("shift: unlike sorts, n below 0", x.shift(0, 0, 1, 0, -1), -12);
    }

    private static void sizeBelow() {
        GoodbyeAll x = new GoodbyeAll();
        for (int sort = 0; sort < 5; sort++) {
            Due.be("-1 of sort " + sort, x.row(0, sort, -1), -14);
            Due.be("far below, of sort " + sort, x.row(0, sort, Integer.MIN_VALUE), -14);
            Due.be("0 of sort " + sort, x.row(1, sort, 0), 1);
        }
        Due.be("nothing came", x.taken(0, 0), -11);
    }

    /** Something of everything: guests, changes done and undone, a law, a tape, an evening, an image, shelves. */
    private static GoodbyeAll rich() {
        GoodbyeAll x = new GoodbyeAll();
        x.guest(12, 20);
        x.guest(11, 0);
        x.guest(33, 0);
        x.mend(0, 3, 5);
        x.mend(2, 7, 4);
        x.mend(1, 6, 3);
        x.undo();
        Due.law(x, "t+n+1");
        x.feed('7');
        x.leave();
        x.image();
        x.go(1);
        x.goodbye();
        for (int kind = 3; kind < 6; kind++) {
            x.body(kind);
        }
        x.act(2, 1, 9);
        Due.bytes(x, 0, 1, 3, 5, 7);
        x.keep(1, 1);
        x.row(3, 3, 2);
        x.put(3, 1, 1L << 40);
        x.row(4, 4, 2);
        x.put(4, 0, 1);
        return x;
    }

    /** All that can be asked of what an object holds; at last also by what changes it. */
    private static List<Long> told(GoodbyeAll x) {
        List<Long> told = new ArrayList<>();
        for (int what = 0; what < 8; what++) {
            for (int number = 0; number < 4; number++) {
                told.add((long) x.of(number, what));
            }
        }
        for (int what = 0; what < 6; what++) {
            told.add((long) x.count(what));
            told.add((long) x.led(what));
            told.add((long) x.trace(what));
            told.add((long) x.taken(what, 0));
            for (int i = 0; i < 5; i++) {
                told.add(x.element(what, i));
            }
        }
        for (int room = 0; room < 5; room++) {
            told.add((long) x.in(room, 10));
            told.add((long) x.in(room, 30));
        }
        told.add((long) x.round(0, 0, 0));
        told.add((long) x.act(0, 3, 4));
        Call[] changing = {y -> y.redo(), y -> y.undo(), y -> y.undo(), y -> y.feed('?'), y -> y.law(), y -> y.back(),
            y -> y.led(0), y -> y.led(3), y -> y.led(5), y -> y.goodbye(), y -> y.go(0), y -> y.leave(),
            y -> y.guest(0, 0), y -> y.body(0)};
        for (Call call : changing) {
            told.add(call.of(x));
        }
        return told;
    }

    /** That each of the calls answers so, and that the object then tells what one tells that never heard it. */
    private static void changesNothing(String what, Call state, int due, Call... refused) {
        GoodbyeAll untouched = rich();
        state.of(untouched);
        List<Long> before = told(untouched);
        for (int i = 0; i < refused.length; i++) {
            GoodbyeAll x = rich();
            state.of(x);
            Due.be(what + ", call " + i, refused[i].of(x), due);
            Due.holds(what + ", call " + i + " changes nothing", told(x).equals(before));
        }
    }

    private static final Call AS_IT_IS = x -> 0;

    private static void badChangesNothing() {
        changesNothing("guests", AS_IT_IS, -1, x -> x.guest(5, 0), x -> x.guest(0, 100), x -> x.guests(0, 0, 0),
            x -> x.guests(6, 0, 1), x -> x.mend(0, 0, 5), x -> x.mend(3, 3, 3), x -> x.mend(0, 8, 1),
            x -> x.mend(4, 7, 1), x -> x.mend(0, 7, 10), x -> x.of(3, 3), x -> x.at(0, 1000), x -> x.in(5, 0),
            x -> x.feed(256), x -> x.feed(-1));
        changesNothing("rounds", AS_IT_IS, -1, x -> x.round(0, 500, 0), x -> x.soonest(500, -1), x -> x.soonest(0, -2),
            x -> x.beginBy(5, 0), x -> x.beginBy(0, 1000), x -> x.slip(0, 2), x -> x.pair(0, 0, 100, 0),
            x -> x.drawn(0, 31, 0), x -> x.judge(0, 500));
        changesNothing("the party", AS_IT_IS, -1, x -> x.coats(0, 3), x -> x.order(60), x -> x.end(3, 0),
            x -> x.end(0, 2), x -> x.knows(0, 100), x -> x.knows(3, 0));
        changesNothing("in deed", AS_IT_IS, -1, x -> x.go(5), x -> x.go(-1), x -> x.stay(0), x -> x.stay(100),
            x -> x.led(6));
        changesNothing("bodies and shelves", AS_IT_IS, -1, x -> x.body(8), x -> x.trace(24), x -> x.keep(0, 3),
            x -> x.keep(6, 0), x -> x.keep(0, -2), x -> x.row(0, 5, 1), x -> x.row(0, 0, 61), x -> x.row(6, 0, 1),
            x -> x.put(6, 0, 1), x -> x.shift(0, 0, 6, 0, 1), x -> x.taken(0, 8), x -> x.count(6));
        changesNothing("an element", AS_IT_IS, -1, x -> x.element(6, 0) == NONE ? -1 : 0);
    }

    private static void notChangesNothing() {
        Call noRow = x -> x.mend(2, 5, 1) + x.mend(1, 0, 4) + x.mend(1, 1, 4) + x.mend(1, 2, 99);
        changesNothing("not so", noRow, -2, x -> x.coats(0, 2), x -> x.beginBy(4, 0), x -> x.soonest(0, 7),
            x -> x.knows(0, -1), x -> x.judge(5, 0) == -11 ? -2 : 0);
        changesNothing("a told round", x -> x.row(5, 0, 0), -2, x -> x.judge(5, 0));
        GoodbyeAll x = new GoodbyeAll();
        Due.be("nobody yawns", x.yawn(), -2);
        Due.be("nobody came by that", x.count(0), 0);
    }

    private static void fullChangesNothing() {
        changesNothing("full", x -> {
            for (int i = 0; i < 7; i++) {
                x.guest(44, 50);
            }
            for (int i = 0; i < 47; i++) {
                x.body(2);
            }
            for (int i = 0; i < 119; i++) {
                x.feed('+');
            }
            return 0;
        }, -3, x -> x.guest(11, 3), x -> x.body(5), x -> x.feed('1'));
    }

    private static void stateChangesNothing() {
        changesNothing("not in the hall", AS_IT_IS, -5, x -> x.leave());
        changesNothing("nothing to do again", x -> x.redo(), -5, x -> x.redo());
        changesNothing("nothing to undo", x -> x.undo() + x.undo(), -5, x -> x.undo());
        GoodbyeAll x = Boundaries.inTheHall(1);
        x.goodbye();
        Due.be("no image", x.back(), -5);
        Due.be("the minute", x.led(0), 3);
        Due.be("who is told", x.led(2), 1);
    }

    private static void hostChangesNothing() {
        changesNothing("nothing there", AS_IT_IS, -11, x -> x.round(2, 0, 0), x -> x.pair(2, 0, 0, 0),
            x -> x.coats(2, 0), x -> x.order(20), x -> x.judge(2, 0), x -> x.put(2, 0, 1),
            x -> x.shift(0, 0, 2, 0, 1), x -> x.shift(2, 0, 0, 0, 1), x -> x.taken(2, 0));
        changesNothing("of another kind", AS_IT_IS, -12, x -> x.round(1, 0, 0), x -> x.pair(3, 0, 0, 0),
            x -> x.coats(3, 0), x -> x.order(10), x -> x.judge(4, 0), x -> x.put(1, 0, 1),
            x -> x.shift(0, 0, 3, 0, 1), x -> x.shift(1, 0, 0, 0, 1), x -> x.taken(1, 2), x -> x.taken(0, 0),
            x -> x.guests(3, 0, 1));
        changesNothing("no place", AS_IT_IS, -13, x -> x.put(0, 4, 1), x -> x.put(0, -1, 1),
            x -> x.shift(0, 0, 0, 1, 4), x -> x.shift(0, 1, 0, 0, 4), x -> x.shift(0, 0, 0, 2, -1));
        changesNothing("below 0", AS_IT_IS, -14, x -> x.row(0, 0, -1), x -> x.row(1, 0, -1), x -> x.row(2, 0, -1));
    }

    private static void ownMemory() {
        GoodbyeAll x = rich();
        GoodbyeAll y = new GoodbyeAll();
        fill(y);
        y.mend(0, 3, 9);
        y.row(0, 0, 4);
        y.put(0, 0, 99);
        y.go(4);
        y.image();
        y.act(0, 3, 3);
        Due.holds("one object tells nothing of another", told(x).equals(told(rich())));
    }

    private static void lastCall() {
        GoodbyeAll x = Boundaries.inTheHall(1);
        for (int call = 2; call < 511; call++) {
            x.stay(99);
        }
        Due.be("the 511th", x.stay(99), 510 * 99);
        Due.be("the 512th", x.goodbye(), 1);
    }
}
