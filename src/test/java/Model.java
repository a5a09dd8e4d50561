import java.util.ArrayList;
import java.util.List;

/**
 * The document's words once more, told as plainly as can be and without a thought for speed:
 * what the class answers is held against it on many houses.
 */
final class Model {
    /** A law's worth: t, n, a, h, m. */
    interface Worth {
        int of(int[] names);
    }

    /** A guest: both rooms, changes, talk, must, host, leaves. */
    final List<int[]> guests = new ArrayList<>();
    final int[] ways = {1, 1, 1, 1};
    Worth law;

    int roomOf(int guest, int minute) {
        int[] g = guests.get(guest);
        return minute < g[2] ? g[0] : g[1];
    }

    int in(int room, int minute) {
        int bits = 0;
        for (int g = 0; g < guests.size(); g++) {
            bits += roomOf(g, minute) == room ? 1 << g : 0;
        }
        return bits;
    }

    int way(int from, int to) {
        if (from == to) {
            return 0;
        }
        return from < to ? ways[from] + way(from + 1, to) : way(to, from);
    }

    int must(int told) {
        int bits = 0;
        for (int g = 0; g < guests.size(); g++) {
            bits += guests.get(g)[4] == 1 && (told >> g & 1) == 0 ? 1 << g : 0;
        }
        return bits;
    }

    private boolean isHost(int guest) {
        return guests.get(guest)[5] == 1;
    }

    int whom(int room, int minute, int told) {
        int bits = 0;
        boolean allOthers = true;
        for (int g = 0; g < guests.size(); g++) {
            if (guests.get(g)[4] == 1 && (told >> g & 1) == 0 && !isHost(g)) {
                if (roomOf(g, minute) == room) {
                    bits += 1 << g;
                } else {
                    allOthers = false;
                }
            }
        }
        for (int g = 0; g < guests.size() && allOthers; g++) {
            if (guests.get(g)[4] == 1 && (told >> g & 1) == 0 && isHost(g) && roomOf(g, minute) == room) {
                bits += 1 << g;
            }
        }
        return bits;
    }

    int minutes(int room, int minute, int whom) {
        int t = 0;
        int n = 0;
        int h = 0;
        for (int g = 0; g < guests.size(); g++) {
            if ((whom >> g & 1) == 1) {
                t = Math.max(t, guests.get(g)[3]);
                n++;
                h |= isHost(g) ? 1 : 0;
            }
        }
        if (n == 0) {
            return 0;
        }
        if (law == null) {
            return Math.max(1, t + n);
        }
        int worth = law.of(new int[] {t, n, Integer.bitCount(in(room, minute)), h, minute});
        return worth < 1 ? 1 : worth > 30 ? 30 : worth;
    }

    /** END, HOME, MISSED. */
    int[] round(int room, int minute, int... rooms) {
        int at = room;
        int now = minute;
        int told = 0;
        for (int next : rooms) {
            now += way(at, next);
            at = next;
            int whom = whom(at, now, told);
            now += minutes(at, now, whom);
            told |= whom;
        }
        return new int[] {now, now + way(at, 0), must(told)};
    }

    private int[] bestRow;
    private int bestHome;

    /** HOME and the row of the soonest; null: none. */
    int[] soonest(int room, int minute) {
        bestRow = null;
        for (int length = 0; length <= 6; length++) {
            tryRows(room, minute, new int[length], 0);
        }
        return bestRow;
    }

    int soonestHome() {
        return bestHome;
    }

    private void tryRows(int room, int minute, int[] row, int set) {
        if (set == row.length) {
            int[] round = round(room, minute, row);
            if (round[2] == 0 && (bestRow == null || round[1] < bestHome)) {
                bestRow = row.clone();
                bestHome = round[1];
            }
            return;
        }
        for (int next = 0; next < 5; next++) {
            if (set == 0 || row[set - 1] != next) {
                row[set] = next;
                tryRows(room, minute, row, set + 1);
            }
        }
    }

    int beginBy(int room, int home) {
        for (int minute = 99; minute >= 0; minute--) {
            if (soonest(room, minute) != null && bestHome <= home) {
                return minute;
            }
        }
        return -2;
    }

    int notices(int room, int minute) {
        int bits = room == 0 ? in(0, minute) : 0;
        for (int next = room - 1; next >= 0; next--) {
            bits |= in(next, minute + way(room, next));
        }
        return bits;
    }

    /** HOME, MISSED of a pair, gone through minute by minute. */
    int[] pair(int[] rows1, int[] rows2, int room1, int room2, int minute) {
        int[][] rows = {rows1, rows2};
        int[] at = {room1, room2};
        int[] next = {0, 0};
        int[] busyTill = {minute, minute};
        boolean[] walking = {false, false};
        int[] own = {0, 0};
        List<List<int[]>> told = List.of(new ArrayList<>(), new ArrayList<>());
        for (int now = minute; now < 3000; now++) {
            for (int p = 0; p < 2; p++) {
                while (busyTill[p] == now && (walking[p] || next[p] < rows[p].length)) {
                    if (!walking[p]) {
                        walking[p] = true;
                        busyTill[p] = now + way(at[p], rows[p][next[p]]);
                        at[p] = rows[p][next[p]];
                        next[p]++;
                    } else {
                        walking[p] = false;
                        int heard = own[p];
                        for (int[] goodbye : told.get(1 - p)) {
                            heard |= now >= goodbye[0] + 1 ? goodbye[1] : 0;
                        }
                        int whom = whom(at[p], now, heard);
                        busyTill[p] = now + minutes(at[p], now, whom);
                        own[p] |= whom;
                        told.get(p).add(new int[] {busyTill[p], whom});
                    }
                }
            }
        }
        int home = Math.max(busyTill[0] + way(at[0], 0), busyTill[1] + way(at[1], 0));
        return new int[] {home, must(own[0] | own[1])};
    }

    /** How many coats lie above a guest's; -2: it has none in the pile. */
    int coats(List<Integer> pile, int guest) {
        int place = pile.indexOf(guest);
        return place < 0 ? -2 : pile.size() - 1 - place;
    }

    int order(List<Integer> coats, List<Integer> leaving) {
        List<Integer> pile = new ArrayList<>(coats);
        int lifted = 0;
        for (Integer guest : leaving) {
            if (guest >= 0 && guest < guests.size() && pile.contains(guest)) {
                lifted += coats(pile, guest);
                pile.remove(guest);
            }
        }
        return lifted;
    }

    /** Waves, who is left. */
    int[] end(int first) {
        int gone = first;
        for (int waves = 0; ; waves++) {
            int wave = 0;
            for (int g = 0; g < guests.size(); g++) {
                if ((gone >> g & 1) == 0 && Integer.bitCount(gone) >= guests.get(g)[6]) {
                    wave |= 1 << g;
                }
            }
            if (wave == 0) {
                return new int[] {waves, ((1 << guests.size()) - 1) & ~gone};
            }
            gone |= wave;
        }
    }

    int yawn() {
        int best = -2;
        for (int g = guests.size() - 1; g >= 0; g--) {
            if (best < 0 || Integer.bitCount(end(1 << g)[1]) <= Integer.bitCount(end(1 << best)[1])) {
                best = g;
            }
        }
        return best;
    }

    int clear() {
        for (int many = 0; ; many++) {
            for (int first = 0; first < 1 << guests.size(); first++) {
                if (Integer.bitCount(first) == many && end(first)[1] == 0) {
                    return first;
                }
            }
        }
    }

    int knows(int guest, int minutes) {
        int known = 1 << guest;
        for (int minute = 1; minute <= minutes; minute++) {
            int ahead = known;
            for (int g = 0; g < guests.size(); g++) {
                for (int other = 0; other < guests.size(); other++) {
                    if ((ahead >> other & 1) == 1 && Math.abs(g - other) == 1
                        && roomOf(g, minute) == roomOf(other, minute)) {
                        known |= 1 << g;
                    }
                }
            }
        }
        return known;
    }

    int firstAllKnow(int guest) {
        // Far beyond minute 99: whoever does not know by then never comes to know.
        for (int minutes = 0; minutes <= 150; minutes++) {
            if (knows(guest, minutes) == (1 << guests.size()) - 1) {
                return minutes;
            }
        }
        return -2;
    }

    /** HOMES, DONE. */
    int[] drawn(int seed, int room, int minute, int n) {
        int z = seed;
        int homes = 0;
        int done = 0;
        for (int i = 0; i < n; i++) {
            int[] rooms = new int[4];
            for (int k = 0; k < 4; k++) {
                z = z * 1103515245 + 12345;
                rooms[k] = (z >>> 8) % 5;
            }
            int[] round = round(room, minute, rooms);
            homes += round[1];
            done += round[2] == 0 ? 1 : 0;
        }
        return new int[] {homes, done};
    }
}
