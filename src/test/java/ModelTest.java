import java.util.ArrayList;
import java.util.List;
import java.util.Random;

/** Many houses, each asked all the questions whose answers the model works out in another way. */
public final class ModelTest {
    private static final Random RANDOM = new Random(20261118);

    /** A house by the model, and an object that has the same one. */
    private static final class Both {
        final Model model = new Model();
        GoodbyeAll x;
        String lawText;
        String told;
    }

    public static void main(String[] args) {
        LawMaker laws = new LawMaker(7);
        for (int i = 0; i < 400; i++) {
            Both both = house(i % 3 == 0 ? null : laws.law(), i);
            renew(both);
            places(both);
            renew(both);
            rounds(both);
            renew(both);
            search(both, i % 40 == 0);
            renew(both);
            pairs(both);
            renew(both);
            party(both);
            draws(both);
            renew(both);
            coats(both);
            allKnow(i);
        }
        Due.close();
    }

    private static int upTo(int n) {
        return RANDOM.nextInt(n + 1);
    }

    private static Both house(LawMaker.Made law, int number) {
        Both both = new Both();
        int many = upTo(10);
        int spread = upTo(1) == 0 ? 4 : 2;
        for (int g = 0; g < many; g++) {
            int one = upTo(spread);
            int other = upTo(2) == 0 ? one : upTo(spread);
            int changes = upTo(2) == 0 ? upTo(99) : upTo(30);
            both.model.guests.add(new int[] {one, other, changes, upTo(9), upTo(4) == 0 ? 0 : 1,
                upTo(3) == 0 ? 1 : 0, upTo(3) == 0 ? 11 : 1 + upTo(8)});
        }
        for (int w = 0; w < 4; w++) {
            both.model.ways[w] = 1 + upTo(upTo(1) == 0 ? 1 : 8);
        }
        if (law != null) {
            both.lawText = law.text;
            both.model.law = law.worth;
        }
        both.told = "house " + number + (law == null ? "" : " by " + law.text) + ": ";
        return both;
    }

    /** A new object with the model's house: one is asked no more than its 512 calls. */
    private static void renew(Both both) {
        GoodbyeAll x = new GoodbyeAll();
        int[] atFirst = {0, 0, 0, 2, 1, 0, 11};
        for (int g = 0; g < both.model.guests.size(); g++) {
            int[] facts = both.model.guests.get(g);
            Due.be("guest", x.guest(10 * facts[0] + facts[1], facts[2]), g);
            for (int what = 3; what < 7; what++) {
                Due.be("mend " + what, x.mend(g, what, facts[what]), atFirst[what]);
            }
        }
        for (int w = 0; w < 4; w++) {
            Due.be("mend way", x.mend(w, 7, both.model.ways[w]), 1);
        }
        if (both.lawText != null) {
            Due.be("law " + both.lawText, Due.law(x, both.lawText), 1);
        }
        both.x = x;
    }

    private static void places(Both both) {
        for (int k = 0; k < 8; k++) {
            int minute = upTo(2) == 0 ? upTo(999) : upTo(99);
            for (int g = 0; g < both.model.guests.size(); g++) {
                Due.be(both.told + "at " + g, both.x.at(g, minute), both.model.roomOf(g, minute));
            }
            for (int r = 0; r < 5; r++) {
                Due.be(both.told + "in " + r, both.x.in(r, minute), both.model.in(r, minute));
            }
        }
        for (int k = 0; k < 6; k++) {
            int room = upTo(4);
            int minute = upTo(99);
            Due.be(both.told + "slip", both.x.slip(100 * room + minute, 0), both.model.notices(room, minute));
            int least = minute;
            for (int m = minute; m <= 99; m++) {
                if (Integer.bitCount(both.model.notices(room, m)) < Integer.bitCount(both.model.notices(room, least))) {
                    least = m;
                }
            }
            Due.be(both.told + "slip least", both.x.slip(100 * room + minute, 1), least);
        }
    }

    private static int[] rooms(int most) {
        int[] rooms = new int[upTo(most)];
        for (int i = 0; i < rooms.length; i++) {
            rooms[i] = upTo(4);
        }
        return rooms;
    }

    private static int[] firstTwelve(int[] rooms) {
        return java.util.Arrays.copyOf(rooms, Math.min(12, rooms.length));
    }

    private static void rounds(Both both) {
        for (int k = 0; k < 6; k++) {
            int[] rooms = rooms(15);
            int room = upTo(4);
            int minute = upTo(99);
            Due.bytes(both.x, 0, rooms);
            int[] due = both.model.round(room, minute, firstTwelve(rooms));
            for (int what = 0; what < 3; what++) {
                Due.be(both.told + "round " + what, both.x.round(0, 100 * room + minute, what), due[what]);
            }
            judged(both, room, minute);
        }
    }

    private static void judged(Both both, int room, int minute) {
        int[] rooms = rooms(5);
        int[] twos = new int[2 * rooms.length];
        int right = 0;
        for (int i = 0; i < rooms.length; i++) {
            int end = both.model.round(room, minute, java.util.Arrays.copyOf(rooms, i + 1))[0];
            twos[2 * i] = rooms[i];
            twos[2 * i + 1] = end;
            right += right == i && end <= 127 ? 1 : 0;
        }
        Due.bytes(both.x, 1, twos);
        Due.be(both.told + "judge", both.x.judge(1, 100 * room + minute), right == rooms.length ? -2 : right);
        if (right > 0) {
            int wrong = upTo(right - 1);
            both.x.put(1, 2 * wrong + 1, twos[2 * wrong + 1] + 1 + upTo(200));
            Due.be(both.told + "judge wrong", both.x.judge(1, 100 * room + minute), wrong);
        }
    }

    private static void search(Both both, boolean alsoBegin) {
        for (int k = 0; k < 2; k++) {
            int room = upTo(4);
            int minute = upTo(99);
            int[] row = both.model.soonest(room, minute);
            int home = both.model.soonestHome();
            Due.be(both.told + "soonest", both.x.soonest(100 * room + minute, -1), row == null ? -2 : home);
            for (int i = 0; i < 7; i++) {
                Due.be(both.told + "soonest " + i, both.x.soonest(100 * room + minute, i),
                    row == null || i >= row.length ? -2 : row[i]);
            }
        }
        if (alsoBegin) {
            int room = upTo(4);
            int home = upTo(150);
            Due.be(both.told + "beginBy " + home, both.x.beginBy(room, home), both.model.beginBy(room, home));
        }
    }

    private static void pairs(Both both) {
        for (int k = 0; k < 10; k++) {
            int[] one = rooms(14);
            int[] other = rooms(14);
            int room1 = upTo(4);
            int room2 = upTo(4);
            int minute = upTo(1) == 0 ? upTo(99) : upTo(10);
            Due.bytes(both.x, 2, one);
            Due.bytes(both.x, 3, other);
            int[] due = both.model.pair(firstTwelve(one), firstTwelve(other), room1, room2, minute);
            for (int what = 0; what < 2; what++) {
                Due.be(both.told + "pair " + what, both.x.pair(23, 10 * room1 + room2, minute, what), due[what]);
            }
        }
    }

    private static void party(Both both) {
        int many = both.model.guests.size();
        for (int g = 0; g < many; g++) {
            int[] due = both.model.end(1 << g);
            Due.be(both.told + "end waves", both.x.end(g, 0), due[0]);
            Due.be(both.told + "end left", both.x.end(g, 1), due[1]);
            int minutes = upTo(99);
            Due.be(both.told + "knows", both.x.knows(g, minutes), both.model.knows(g, minutes));
            Due.be(both.told + "all know", both.x.knows(g, -1), both.model.firstAllKnow(g));
        }
        Due.be(both.told + "yawn", both.x.yawn(), both.model.yawn());
        Due.be(both.told + "clear", both.x.clear(), both.model.clear());
    }

    /** Few rooms and late changes: who knows at last is often so late that it is beyond minute 99. */
    private static void allKnow(int number) {
        Both both = new Both();
        both.told = "late house " + number + ": ";
        int many = 1 + upTo(9);
        for (int g = 0; g < many; g++) {
            int one = upTo(1);
            int other = upTo(9) == 0 ? 1 : 0;
            both.model.guests.add(new int[] {one, other, upTo(1) == 0 ? 99 - upTo(9) : upTo(9), 2, 1, 0, 11});
        }
        renew(both);
        for (int g = 0; g < many; g++) {
            Due.be(both.told + "all know from " + g, both.x.knows(g, -1), both.model.firstAllKnow(g));
            Due.be(both.told + "behind 99 from " + g, both.x.knows(g, 99), both.model.knows(g, 99));
        }
    }

    /** Piles and orders, also with bytes that are no guest's numbers. */
    private static void coats(Both both) {
        int many = both.model.guests.size();
        for (int k = 0; k < 4; k++) {
            List<Integer> pile = numbers(upTo(1) == 0 ? 60 : 12);
            List<Integer> leaving = numbers(15);
            Due.bytes(both.x, 4, pile.stream().mapToInt(n -> n).toArray());
            Due.bytes(both.x, 5, leaving.stream().mapToInt(n -> n).toArray());
            Due.be(both.told + "order", both.x.order(45), both.model.order(pile, leaving));
            for (int g = 0; g < many; g++) {
                Due.be(both.told + "coats " + g, both.x.coats(4, g), both.model.coats(pile, g));
            }
        }
    }

    private static List<Integer> numbers(int most) {
        List<Integer> numbers = new ArrayList<>();
        int many = upTo(most);
        for (int i = 0; i < many; i++) {
            numbers.add(upTo(12) - 1);
        }
        return numbers;
    }

    private static void draws(Both both) {
        for (int k = 0; k < 4; k++) {
            int seed = RANDOM.nextInt();
            int room = upTo(4);
            int minute = upTo(99);
            int n = 1 + upTo(29);
            int[] due = both.model.drawn(seed, room, minute, n);
            int rmn = 10000 * room + 100 * minute + n;
            Due.be(both.told + "drawn homes", both.x.drawn(seed, rmn, 0), due[0]);
            Due.be(both.told + "drawn done", both.x.drawn(seed, rmn, 1), due[1]);
        }
    }
}
