import java.util.ArrayList;
import java.util.List;

/** For each boundary sentence, ways in which the class could break it: a piece of its source and what stands there then. */
final class Breaks {
    /** A piece of the source, on one line with single blanks, and what takes its place. */
    static final class Break {
        final String id;
        final String from;
        final String to;

        private Break(String id, String from, String to) {
            this.id = id;
            this.from = from;
            this.to = to;
        }
    }

    private final List<Break> breaks = new ArrayList<>();

    private Breaks() {
    }

    static List<Break> all() {
        Breaks all = new Breaks();
        all.rooms();
        all.guestsFromARow();
        all.whereGuestsAre();
        all.texts();
        all.worths();
        all.goodbyes();
        all.rounds();
        all.soonest();
        all.slips();
        all.pairs();
        all.drawsAndTold();
        all.coats();
        all.end();
        all.knows();
        all.deeds();
        all.changes();
        all.bodies();
        all.shelves();
        all.shifts();
        all.answers();
        all.refused();
        return all.breaks;
    }

    /** That piece of the source becomes each of the others in turn. */
    private void add(String id, String from, String... others) {
        for (String other : others) {
            breaks.add(new Break(id, from, other));
        }
    }

    private void rooms() {
        String isRoom = "return room >= 0 && room < ROOMS;";
        String least = "{0, 0, 0, 0, 0, 0, 1, 1}";
        String greatest = "{4, 4, 99, 9, 1, 1, 11, 9}";
        add("empty rooms", "private int guests;", "private int guests = 1;");
        add("rooms 0 to 4", isRoom, "return room > 0 && room < ROOMS;", "return room >= -1 && room < ROOMS;",
            "return room >= 0 && room < ROOMS - 1;", "return room >= 0 && room <= ROOMS;");
        add("ways", least, "{0, 0, 0, 0, 0, 0, 1, 0}", "{0, 0, 0, 0, 0, 0, 1, 2}");
        add("ways", greatest, "{4, 4, 99, 9, 1, 1, 11, 8}", "{4, 4, 99, 9, 1, 1, 11, 10}");
        add("ways", "ways = {1, 1, 1, 1}", "ways = {1, 1, 1, 2}");
        add("ways", "minutes += ways[i];", "minutes += ways[0];");
        add("guests 0 to 9", "static final int MOST_GUESTS = 10;", "static final int MOST_GUESTS = 9;");
        add("changes", greatest, "{4, 4, 98, 9, 1, 1, 11, 9}", "{4, 4, 100, 9, 1, 1, 11, 9}");
        add("changes", least, "{0, 0, 1, 0, 0, 0, 1, 1}", "{0, 0, -1, 0, 0, 0, 1, 1}");
        add("changes", "minute >= facts[CHANGES][guest]", "minute > facts[CHANGES][guest]");
        add("talk", greatest, "{4, 4, 99, 8, 1, 1, 11, 9}", "{4, 4, 99, 10, 1, 1, 11, 9}");
        add("talk", least, "{0, 0, 0, 1, 0, 0, 1, 1}", "{0, 0, 0, -1, 0, 0, 1, 1}");
        add("talk", "TALK_AT_FIRST = 2", "TALK_AT_FIRST = 3");
        add("must", greatest, "{4, 4, 99, 9, 2, 1, 11, 9}");
        add("must", least, "{0, 0, 0, 0, -1, 0, 1, 1}");
        add("must", "setFact(guest, MUST, 1);", "setFact(guest, MUST, 0);");
        add("host", greatest, "{4, 4, 99, 9, 1, 2, 11, 9}");
        add("host", least, "{0, 0, 0, 0, 0, -1, 1, 1}");
        add("host", "return heard == others ? open & here : heard;", "return open & here;");
        add("leaves", greatest, "{4, 4, 99, 9, 1, 1, 10, 9}", "{4, 4, 99, 9, 1, 1, 12, 9}");
        add("leaves", least, "{0, 0, 0, 0, 0, 0, 0, 1}", "{0, 0, 0, 0, 0, 0, 2, 1}");
        add("leaves", "NEVER = 11", "NEVER = 10");
        add("leaves", "house.fact(guest, House.LEAVES) <= gone", "house.fact(guest, House.LEAVES) <= gone + 1");
    }

    private void guestsFromARow() {
        String pair = "return rooms >= 0 && House.isRoom(rooms / 10) && House.isRoom(rooms % 10);";
        add("guest: ab", pair, "return rooms >= 0 && House.isRoom(rooms / 10);",
            "return rooms >= 0 && House.isRoom(rooms % 10);", "return rooms > 0 && House.isRoom(rooms / 10) "
            + "&& House.isRoom(rooms % 10);");
        add("guest: full", "if (guests >= MOST_GUESTS) { return FULL;", "if (guests >= MOST_GUESTS) { return BAD;",
            "if (guests >= MOST_GUESTS - 1) { return FULL;");
        add("guests: n", "n < 1 || n > MOST_COMING", "n < 0 || n > MOST_COMING", "n < 2 || n > MOST_COMING",
            "n < 1 || n >= MOST_COMING", "n < 1 || n > MOST_COMING + 1");
        add("guests: i below 0", "i < 0 || i > Shelf.MOST ? Shelf.MOST : i + 3 * k",
            "i > Shelf.MOST ? Shelf.MOST : Math.max(i, 0) + 3 * k", "i < -1 || i > Shelf.MOST ? Shelf.MOST "
            + ": Math.max(i, 0) + 3 * k");
        add("guests: no row of bytes", "threes.bytesRefusal() == OTHER_KIND",
            "threes.bytesRefusal() == OTHER_KIND && threes.holdsBody()",
            "threes.bytesRefusal() == OTHER_KIND && threes.holdsRow()");
        add("guests: the row is missing", "threes.bytesRefusal() == OTHER_KIND", "threes.bytesRefusal() != 0");
        add("guests: the row ends", "if (!threes.hasBytes(place, 3)) { return false; }",
            "if (!threes.hasBytes(place, 4)) { return false; }");
        add("guests: the row ends", "if (!threes.hasBytes(place, 3)) { return false; } int one = threes.smallAt(place); "
            + "int other = threes.smallAt(place + 1); int talk = threes.smallAt(place + 2);",
            "if (!threes.hasBytes(place, 2)) { return false; } int one = threes.smallAt(place); "
            + "int other = threes.smallAt(place + 1); int talk = Math.max(0, threes.smallAt(place + 2));",
            "if (!threes.hasBytes(place, 1)) { return false; } int one = threes.smallAt(place); "
            + "int other = Math.max(0, threes.smallAt(place + 1)); int talk = Math.max(0, threes.smallAt(place + 2));",
            "int one = Math.max(0, threes.smallAt(place)); "
            + "int other = Math.max(0, threes.smallAt(place + 1)); int talk = Math.max(0, threes.smallAt(place + 2));");
        add("guests: not as it may be", "!House.isRoom(one) || !House.isRoom(other) || !House.fits(House.TALK, talk)",
            "!House.isRoom(other) || !House.fits(House.TALK, talk)", "!House.isRoom(one) || !House.fits(House.TALK, talk)",
            "!House.isRoom(one) || !House.isRoom(other)", "!House.isRoom(one) || !House.isRoom(other) || talk > 9",
            "!House.isRoom(one) || !House.isRoom(other) || talk < 0");
        add("guests: not as it may be", "if (!welcomeFrom(threes, place)) { break; }",
            "if (!welcomeFrom(threes, place)) { continue; }");
        add("guests: full", "house.welcome(one, other, CHANGES_FROM_A_ROW, talk) != FULL",
            "house.welcome(one, other, CHANGES_FROM_A_ROW, talk) != BAD");
        add("guests: threes", "CHANGES_FROM_A_ROW = 50", "CHANGES_FROM_A_ROW = 49", "CHANGES_FROM_A_ROW = 51");
        add("guests: threes", "i + 3 * k", "i + 2 * k", "3 * k");
    }

    private void whereGuestsAre() {
        add("mend: what", "return number >= 0 && number < ways.length;", "return number > 0 && number < ways.length;",
            "return number >= 0 && number < ways.length - 1;", "return number >= 0 && number <= ways.length;");
        add("mend: what", "return what >= 0 && what < facts.length && isGuest(number);",
            "return what > 0 && what < facts.length && isGuest(number);",
            "return what >= 0 && what < facts.length - 1 && isGuest(number);",
            "return what >= 0 && what < facts.length && number >= 0 && number < MOST_GUESTS;");
        add("mend: what", "return before; }", "return v; }");
        add("mend: both rooms", "{4, 4, 99, 9, 1, 1, 11, 9}", "{3, 4, 99, 9, 1, 1, 11, 9}",
            "{5, 4, 99, 9, 1, 1, 11, 9}", "{4, 3, 99, 9, 1, 1, 11, 9}", "{4, 5, 99, 9, 1, 1, 11, 9}");
        add("mend: both rooms", "} else if (what <= CHANGES) {", "} else if (what == CHANGES) {");
        add("of", "house.hasFact(number, what) ? house.fact(number, what) : BAD",
            "house.hasFact(number, what) ? house.fact(number, what) : NOT",
            "number >= 0 ? house.fact(Math.min(number, 1), what) : BAD");
        String at = "!house.isGuest(guest) || minute < 0 || minute > FARTHEST_MINUTE";
        add("at", at, "!house.isGuest(guest) || minute < -1 || minute > FARTHEST_MINUTE",
            "!house.isGuest(guest) || minute < 1 || minute > FARTHEST_MINUTE",
            "!house.isGuest(guest) || minute < 0 || minute >= FARTHEST_MINUTE",
            "!house.isGuest(guest) || minute < 0 || minute > FARTHEST_MINUTE + 1");
        String in = "!House.isRoom(room) || minute < 0 || minute > FARTHEST_MINUTE";
        add("in", in, "!House.isRoom(room) || minute < -1 || minute > FARTHEST_MINUTE",
            "!House.isRoom(room) || minute < 1 || minute > FARTHEST_MINUTE",
            "!House.isRoom(room) || minute < 0 || minute >= FARTHEST_MINUTE",
            "!House.isRoom(room) || minute < 0 || minute > FARTHEST_MINUTE + 1",
            "minute < 0 || minute > FARTHEST_MINUTE");
    }

    private void texts() {
        add("tape: a byte", "letter < 0 || letter > 255", "letter < -1 || letter > 255", "letter < 1 || letter > 255",
            "letter < 0 || letter > 256", "letter < 0 || letter > 254");
        String most = "private static final int MOST = 120, MOST_DIGITS";
        add("tape: full", most, "private static final int MOST = 119, MOST_DIGITS",
            "private static final int MOST = 121, MOST_DIGITS");
        add("tape: full", "tape.add(letter) ? tape.length() : FULL", "tape.add(letter) ? tape.length() : BAD");
        add("law: 120 bytes", most, "private static final int MOST = 119, MOST_DIGITS");
        add("law: 120 bytes", "private int sign() { return place >= 0 && place < length",
            "private int sign() { return place >= 0 && place < length && place < 119");
        add("law: answer", "fault < 0 ? 1 : FAULT_BASE - fault", "fault < 0 ? 0 : FAULT_BASE - fault",
            "fault < 0 ? 1 : FAULT_BASE + fault", "fault < 1 ? 1 : FAULT_BASE - fault");
        add("law: answer", "FAULT_BASE = -100", "FAULT_BASE = -101");
        add("law: answer", "if (fault < 0) { law.take(tape); }", "law.take(tape);");
        add("law: the tape is empty then", "tape.empty(); return fault < 0", "if (fault < 0) { tape.empty(); } "
            + "return fault < 0", "if (fault >= 0) { tape.empty(); } return fault < 0");
        add("law: lines", "if (!readLine()) { return place; }", "if (!readLine()) { return length == 0 ? -1 : place; }",
            "if (!readLine()) { return line > 0 && place >= length ? -1 : place; }");
        add("law: lines", "for (int line = 0; line <= MOST; line++)", "for (int line = 0; line <= 0; line++)",
            "for (int line = 0; line <= 40; line++)");
        add("law: a line", "if (sign() == '?') {", "while (sign() == '?') {");
        add("law: a line", "skipping = pop() == 0;", "skipping = pop() <= 0;", "skipping = pop() != 1;");
        add("law: joined", "for (int i = 0; i < most && levelOf(sign()) == level; i++)",
            "for (int i = 0; i < 1 && levelOf(sign()) == level; i++)");
        add("law: joined", "case '|': return 0; case '&': return 1;", "case '|': return 1; case '&': return 1;",
            "case '|': return 1; case '&': return 0;");
        add("law: summed", "for (int i = 0; i < most && levelOf(sign()) == level; i++)",
            "for (int i = 0; i < 1 && levelOf(sign()) == level; i++)");
        add("law: summed", "case '+': case '-': return 3; case '*':", "case '+': case '-': case '*':",
            "case '-': return 4; case '+': return 3; case '*':");
        add("law: summed", "if (!readLevel(level + 1, open)) { return false; } write(joining, 0);",
            "if (!readLevel(level, open)) { return false; } write(joining, 0);");
        add("law: comparing", "int most = level == COMPARING ? 1 : MOST;", "int most = MOST;",
            "int most = level == COMPARING ? 0 : MOST;", "int most = level == COMPARING ? 2 : MOST;");
        add("law: a number", "MOST_DIGITS = 4", "MOST_DIGITS = 3", "MOST_DIGITS = 5");
        add("law: a number", "number = number * 10 + sign() - '0';", "number = sign() - '0';");
        add("law: no blanks", "int first = sign(); int name", "place += sign() == ' ' ? 1 : 0; int first = sign(); int name");
        add("law: no blanks", "write(Law.NUMBER, number);", "write(Law.NUMBER, number); place += sign() == ' ' ? 1 : 0;");
        add("law: open", "MOST_OPEN = 6", "MOST_OPEN = 5", "MOST_OPEN = 7");
        add("law: open", "readInner(open + 1)", "readInner(open)");
        add("law: open", "readPrefixed(first, open + 1)", "readPrefixed(first, open)");
        add("law: fault", "if (sign() != ';') { return place; }", "if (sign() != ';') { return length; }",
            "if (sign() != ';') { return place + 1; }");
        add("law: fault", "|| open >= MOST_OPEN) { return false; }", "|| open >= MOST_OPEN) { place++; return false; }");
        add("law: too early", "if (!readLine()) { return place; }", "if (!readLine()) { return Math.min(place, length - 1); }",
            "if (!readLine()) { return place >= length ? -1 : place; }");
    }

    private void worths() {
        add("law: t", "int talk = house.greatestTalk(whom);", "int talk = house.greatestTalk(house.whoIsIn(room, minute));",
            "int talk = Math.max(1, house.greatestTalk(whom));");
        add("law: n", "names[1] = many;", "names[1] = Integer.bitCount(house.whoIsIn(room, minute));",
            "names[1] = Math.min(many, 9);");
        add("law: a", "names[2] = Integer.bitCount(house.whoIsIn(room, minute));", "names[2] = many;");
        add("law: h", "names[3] = house.hasHost(whom) ? 1 : 0;",
            "names[3] = house.hasHost(house.whoIsIn(room, minute)) ? 1 : 0;", "names[3] = house.hasHost(whom) ? many : 0;");
        add("law: m", "names[4] = minute;", "names[4] = Math.min(minute, LAST_MINUTE);", "names[4] = Math.max(minute, 1);");
        add("law: ints that wrap", "return left + right;",
            "return (int) Math.max(-2147483648L, Math.min(2147483647L, (long) left + right));");
        add("law: ints that wrap", "return left - right;",
            "return (int) Math.max(-2147483648L, Math.min(2147483647L, (long) left - right));");
        add("law: ints that wrap", "return left * right;",
            "return (int) Math.max(-2147483648L, Math.min(2147483647L, (long) left * right));");
        add("law: ints that wrap", "push(-pop());", "push(-Math.max(pop(), -2147483647));");
        add("law: toward 0", "right == 0 ? 0 : left / right", "right == 0 ? 0 : Math.floorDiv(left, right)",
            "right == 0 ? left : left / right", "right == 0 ? 1 : left / right",
            "right == 0 || right == -1 ? 0 : left / right");
        add("law: toward 0", "right == 0 ? 0 : left % right", "right == 0 ? 0 : Math.floorMod(left, right)",
            "right == 0 ? left : left % right", "right == 0 ? 0 : Math.abs(left % right)");
        add("law: 1, 0", "left != 0 || right != 0 ? 1 : 0", "left | right", "left > 0 || right > 0 ? 1 : 0");
        add("law: 1, 0", "left != 0 && right != 0 ? 1 : 0", "left & right", "left > 0 && right > 0 ? 1 : 0");
        add("law: 1, 0", "left < right ? 1 : 0", "left <= right ? 1 : 0", "left < right ? -1 : 0");
        add("law: 1, 0", "left > right ? 1 : 0", "left >= right ? 1 : 0", "left > right ? -1 : 0");
        add("law: 1, 0", "left == right ? 1 : 0", "left == right ? -1 : 0");
        add("law: 1, 0", "push(pop() == 0 ? 1 : 0);", "push(pop() <= 0 ? 1 : 0);", "push(pop() == 0 ? -1 : 0);");
        add("law: first line", "skipping = pop() == 0;", "skipping = pop() != 0;", "skipping = false;");
        add("law: first line", "if (!skipping) { return pop(); }", "if (!skipping && stack[Math.max(0, top - 1)] != 0) "
            + "{ return pop(); }");
        add("law: none counts", "return 0; } private void apply", "return 9; } private void apply");
        add("law: 1 to 30", "LEAST = 1, GREATEST = 30", "LEAST = 0, GREATEST = 30", "LEAST = 2, GREATEST = 30",
            "LEAST = 1, GREATEST = 29", "LEAST = 1, GREATEST = 31");
        add("law: without a text", "return Math.max(LEAST, talk + many);", "return Math.max(2, talk + many);",
            "return Math.max(LEAST, talk);", "return Math.max(LEAST, Math.min(18, talk + many));");
    }

    private void goodbyes() {
        String host = "return heard == others ? open & here : heard;";
        add("goodbye: as it begins", "int here = whoIsIn(room, minute);", "int here = whoIsIn(room, minute + 1);",
            "int here = whoIsIn(room, Math.max(0, minute - 1));", "int here = whoIsIn(room, minute + 3);");
        add("goodbye: hosts", host, "return open & here;", "return others == 0 ? open & here : heard;", "return heard;");
        add("goodbye: hosts", "int others = open & ~hostBits;", "int others = everybody() & ~told & ~hostBits;");
        add("goodbye: all at once", "Math.min(GREATEST, worth())", "Math.min(GREATEST, worth() * many)");
        add("goodbye: all at once", "goodbyes += whom == 0 ? 0 : 1;", "goodbyes += Integer.bitCount(whom);");
        add("goodbye: none to be told", "if (whom == 0) { return 0; }", "if (whom == 0) { return 1; }",
            "if (house.whoIsIn(room, minute) == 0) { return 0; }");
        add("goodbye: told and comes later", "told |= whom; return whom;", "told = whom; return whom;");
        add("goodbye: told and comes later", "int talk = house.greatestTalk(whom);",
            "int talk = house.greatestTalk(house.whoIsIn(room, minute));");
    }

    private void rounds() {
        String isRm = "return rm >= 0 && House.isRoom(rm / 100);";
        add("rm", isRm, "return House.isRoom(rm / 100);", "return rm > 0 && House.isRoom(rm / 100);",
            "return rm >= 0 && rm < 499;", "return rm >= 0 && rm <= 500;", "return rm >= 0 && rm % 100 < 99 && rm < 500;");
        add("round: 12 rooms", "MOST_ROUND_ROOMS = 12", "MOST_ROUND_ROOMS = 11", "MOST_ROUND_ROOMS = 13");
        add("round: beyond 99", "minute < MINUTES ? minute : MINUTES - 1", "minute < MINUTES ? minute : 0",
            "minute < MINUTES ? minute : MINUTES - 2");
        add("round: no room", "if (!House.isRoom(smallAt(i))) { return i; }", "if (smallAt(i) < 0) { return i; }",
            "if (smallAt(i) < 0 || smallAt(i) > 5) { return i; }",
            "if (i >= size || smallAt(i) > 4) { return i; }", "if (!House.isRoom(smallAt(i))) { return 0; }",
            "if (smallAt(i) < 1 || smallAt(i) > 4) { return i; }", "if (smallAt(i) < 0 || smallAt(i) > 3) { return i; }");
        add("round: missed", "return mustBits & ~told;", "return everybody() & ~told;", "return mustBits & ~told & 511;");
        String what = "if (rooms == null || !isRoomMinute(rm) || what < 0 || what > 2) {";
        add("round: refusals", what, "if (rooms == null || !isRoomMinute(rm) || what < -1 || what > 2) {",
            "if (rooms == null || !isRoomMinute(rm) || what < 0 || what > 3) {");
        add("round: refusals", "return holdsBytes() ? 0 : OTHER_KIND;", "return holdsRow() ? 0 : OTHER_KIND;",
            "return holdsBytes() || holdsBody() ? 0 : OTHER_KIND;", "return holdsBytes() ? 0 : NOTHING_THERE;");
        add("round: refusals", "return NOTHING_THERE; } return holdsBytes()", "return OTHER_KIND; } return holdsBytes()",
            "return 0; } return holdsBytes()");
        add("round: the same room", "leaver.walkTo(rooms.smallAt(i)); leaver.tell(0);",
            "leaver.walkTo(rooms.smallAt(i)); if (i == 0 || rooms.smallAt(i) != rooms.smallAt(i - 1)) { leaver.tell(0); }");
    }

    private void soonest() {
        add("soonest: six rooms", "private static final int MOST = 6;", "private static final int MOST = 5;",
            "private static final int MOST = 7;");
        add("soonest: unlike", "if (length == 0 || next != room) {", "if (length >= 0) {", "if (next != room) {");
        add("soonest: the shorter", "(home == bestHome && length >= bestLength)", "(home == bestHome && found)");
        add("soonest: the first by numbers", "(home == bestHome && length >= bestLength)",
            "(home == bestHome && length > bestLength)");
        add("soonest: the first by numbers", "for (int next = 0; next < ROOMS; next++) { if (length == 0",
            "for (int next = ROOMS - 1; next >= 0; next--) { if (length == 0");
        add("soonest: none", "return NOT; } return k == -1", "return BAD; } return k == -1",
            "return k == -1 ? 0 : NOT; } return k == -1");
        add("soonest: k", "!isRoomMinute(rm) || k < -1", "!isRoomMinute(rm) || k < -2", "!isRoomMinute(rm) || k < 0");
        add("soonest: k", "k >= 0 && k < bestLength && k < MOST ? best[k] : NOT",
            "k >= 0 && k < bestLength && k < MOST ? best[k] : BAD", "k >= 0 && k < MOST ? best[k] : NOT");
        add("beginBy: 0 to 99", "for (int minute = LAST_MINUTE; minute >= 0; minute--)",
            "for (int minute = LAST_MINUTE - 1; minute >= 0; minute--)", "for (int minute = LAST_MINUTE + 1; minute >= 0; "
            + "minute--)", "for (int minute = LAST_MINUTE; minute > 0; minute--)");
        add("beginBy: no later", "search.find(room, minute, home)", "search.find(room, minute, home - 1)",
            "search.find(room, minute, home + 1)");
        String beginBy = "!House.isRoom(room) || home < 0 || home > FARTHEST_MINUTE";
        add("beginBy: refusals", beginBy, "home < 0 || home > FARTHEST_MINUTE", "!House.isRoom(room) || home < -1 || home > "
            + "FARTHEST_MINUTE", "!House.isRoom(room) || home < 1 || home > FARTHEST_MINUTE", "!House.isRoom(room) || home < 0 "
            + "|| home > FARTHEST_MINUTE + 1", "!House.isRoom(room) || home < 0 || home >= FARTHEST_MINUTE");
        add("beginBy: refusals", "if (search.find(room, minute, home)) { return minute; } } return NOT;",
            "if (search.find(room, minute, home)) { return minute; } } return BAD;");
    }

    private void slips() {
        add("slip: the beginning", "room == HALL ? whoIsIn(HALL, minute) : 0", "whoIsIn(room, minute)", "0");
        add("slip: in the minute", "noticing |= whoIsIn(next, now);", "noticing |= whoIsIn(next, minute);",
            "noticing |= whoIsIn(next, now) | whoIsIn(next + 1, now);");
        add("slip: in the minute", "now += wayBetween(next + 1, next);", "now += 1;");
        add("slip: least noticed", "for (int minute = rm % 100; minute <= LAST_MINUTE; minute++)",
            "for (int minute = rm % 100; minute < LAST_MINUTE; minute++)",
            "for (int minute = rm % 100 + 1; minute <= LAST_MINUTE; minute++)",
            "for (int minute = 0; minute <= LAST_MINUTE; minute++)");
        add("slip: the first", "if (many < least) {", "if (many <= least) {");
        String slip = "!isRoomMinute(rm) || what < 0 || what > 1) { return BAD; } if (what == 0) { return house.whoNotices";
        add("slip: refusals", slip, slip.replace("what > 1", "what > 2"), slip.replace("what < 0", "what < -1"),
            slip.replace("what > 1", "what > 0"));
    }

    private void pairs() {
        add("pair: behind its end", "if (ends[side][i] < minute) {", "if (ends[side][i] <= minute) {",
            "if (ends[side][i] < minute - 1) {");
        add("pair: told by either", "Math.max(one.home(), other.home())", "Math.min(one.home(), other.home())",
            "one.home()", "other.home()");
        add("pair: told by either", "return one.told() | other.told();", "return one.told() & other.told();",
            "return one.told();", "return other.told();");
        String numbers = "if (minute < 0 || minute > LAST_MINUTE || what < 0 || what > 1) {";
        add("pair: ss, rr, minute", numbers, numbers.replace("minute < 0", "minute < -1"),
            numbers.replace("minute < 0", "minute < 1"), numbers.replace("> LAST_MINUTE", ">= LAST_MINUTE"),
            numbers.replace("> LAST_MINUTE", "> LAST_MINUTE + 1"));
        add("pair: ss, rr, minute", "if (one == null || other == null || !isRoomPair(rr)) {",
            "if (one == null || other == null) {", "if (other == null || !isRoomPair(rr)) {",
            "if (one == null || !isRoomPair(rr)) {");
        add("pair: ss, rr, minute", "two.begin(rr / 10, rr % 10, minute);", "two.begin(rr % 10, rr / 10, minute);");
        add("pair: refusals", numbers, numbers.replace("what < 0", "what < -1"), numbers.replace("what > 1", "what > 2"));
        add("pair: refusals", "if (one.isEmpty() || other.isEmpty()) {", "if (one.isEmpty()) {", "if (other.isEmpty()) {");
        add("pair: refusals", "return one.holdsBytes() && other.holdsBytes() ? 0 : OTHER_KIND;",
            "return one.holdsBytes() ? 0 : OTHER_KIND;", "return other.holdsBytes() ? 0 : OTHER_KIND;",
            "return one.holdsBytes() && other.holdsBytes() ? 0 : NOTHING_THERE;");
    }

    private void drawsAndTold() {
        add("drawn: n", "MOST_DRAWN = 30", "MOST_DRAWN = 29", "MOST_DRAWN = 31");
        add("drawn: n", "rounds < 1 || rounds > MOST_DRAWN", "rounds < 0 || rounds > MOST_DRAWN",
            "rounds < 2 || rounds > MOST_DRAWN");
        add("drawn: an int", "z = z * 1103515245 + 12345;", "z = (int) (z * 1103515245L + 12345 & 2147483647L);");
        add("drawn: an int", "(z >>> 8) % ROOMS", "(z >> 8) % ROOMS", "(z & 2147483647) % ROOMS");
        add("drawn: an int", "leaver.begin(rmn / 10000, rmn / 100 % 100);",
            "z = seed; leaver.begin(rmn / 10000, rmn / 100 % 100);");
        add("drawn: an int", "int z = seed;", "int z = Math.max(seed, 0);");
        add("drawn: the same one", "leaver.walkTo((z >>> 8) % ROOMS); leaver.tell(0);",
            "int ahead = leaver.room(); leaver.walkTo((z >>> 8) % ROOMS); if (ahead != leaver.room()) { leaver.tell(0); }");
        String drawn = "if (rmn < 0 || !isRoomMinute(rmn / 100) || what < 0 || what > 1) {";
        add("drawn: refusals", drawn, "if (rmn < 0 || what < 0 || what > 1) {", drawn.replace("what < 0", "what < -1"),
            drawn.replace("what > 1", "what > 2"), drawn.replace("rmn < 0", "rmn < 2"));
        add("judge: 0 to 127", "leaver.minute() == twos.smallAt(place + 1)", "(byte) leaver.minute() == twos.smallAt(place "
            + "+ 1)", "leaver.minute() == twos.smallAt(place + 1) && leaver.minute() < 127",
            "leaver.minute() == twos.smallAt(place + 1) && leaver.minute() > 0");
        add("judge: not so", "int many = (twos.size() + 1) / 2;", "int many = twos.size() / 2;");
        add("judge: not so", "|| !House.isRoom(twos.smallAt(place))) {", ") {");
        add("judge: not so", "if (!isTrue(twos, 2 * i)) { return i; }", "if (!isTrue(twos, 2 * i)) { return 2 * i; }",
            "if (!isTrue(twos, 2 * i)) { return many - 1; }");
        add("judge: not so", "leaver.minute() == twos.smallAt(place + 1)", "leaver.minute() >= twos.smallAt(place + 1)",
            "leaver.minute() <= twos.smallAt(place + 1)");
        add("judge: refusals", "return holdsBytes() ? 0 : OTHER_KIND;", "return holdsRow() ? 0 : OTHER_KIND;",
            "return holdsBytes() || holdsBody() ? 0 : OTHER_KIND;");
        add("judge: refusals", "if (twos == null || !isRoomMinute(rm)) { return BAD; }",
            "if (twos == null || !isRoomMinute(rm)) { return NOTHING_THERE; }");
        add("judge: refusals", "return NOTHING_THERE; } return holdsBytes()", "return 0; } return holdsBytes()");
    }

    private void coats() {
        add("coats: above", "int i = Math.max(0, place + 1); i < size", "int i = Math.max(0, place); i < size",
            "int i = 0; i < size");
        add("coats: above", "for (int i = 0; i < size && i < MOST; i++) { if ((taken",
            "for (int i = Math.min(size, MOST) - 1; i >= 0; i--) { if ((taken",
            "for (int i = 0; i < size - 1 && i < MOST; i++) { if ((taken");
        add("coats: none there", "return place < 0 ? NOT : pile.above(place, 0L);",
            "return place < 0 ? 0 : pile.above(place, 0L);", "return place < 0 ? BAD : pile.above(place, 0L);");
        add("coats: none there", "for (int i = 0; i < size && i < MOST; i++) { if ((taken",
            "for (int i = 0; i < MOST; i++) { if ((taken");
        add("coats: refusals", "if (pile == null || !house.isGuest(guest)) {", "if (pile == null || guest < 0) {",
            "if (pile == null || guest < 0 || guest >= House.MOST_GUESTS) {", "if (pile == null || guest >= "
            + "house.guestCount()) {");
        add("coats: refusals", "return holdsBytes() ? 0 : OTHER_KIND;", "return holdsRow() ? 0 : OTHER_KIND;",
            "return holdsBytes() || holdsBody() ? 0 : OTHER_KIND;");
        add("order: each time", "taken |= 1L << place;", "taken |= 0L;");
        add("order: each time", "lifted += pile.above(place, taken);", "lifted = pile.above(place, taken);",
            "lifted = Math.max(lifted, pile.above(place, taken));");
        add("order: laid back", "taken |= 1L << place;", "taken |= -1L << place;");
        add("order: without a coat", "// Who has not come", "if (pile.lowest(guest, taken) < 0) { break; } // Who");
        add("order: without a coat", "if (place >= 0) { lifted", "lifted += place < 0 ? 1 : 0; if (place >= 0) { lifted");
        add("order: guests", "house.isGuest(guest) ? pile.lowest(guest, taken) : -1", "pile.lowest(guest, taken)",
            "guest >= 0 && guest < House.MOST_GUESTS ? pile.lowest(guest, taken) : -1");
        add("order: refusals", "Shelf pile = firstShelf(ss); Shelf leaving = secondShelf(ss);",
            "Shelf leaving = firstShelf(ss); Shelf pile = secondShelf(ss);");
        add("order: refusals", "if (one.isEmpty() || other.isEmpty()) {", "if (one.isEmpty()) {", "if (other.isEmpty()) {");
        add("order: refusals", "return one.holdsBytes() && other.holdsBytes() ? 0 : OTHER_KIND;",
            "return one.holdsBytes() ? 0 : OTHER_KIND;", "return other.holdsBytes() ? 0 : OTHER_KIND;");
    }

    private void end() {
        String leaves = "house.fact(guest, House.LEAVES) <= gone";
        add("end: as so many", leaves, "house.fact(guest, House.LEAVES) == gone", "house.fact(guest, House.LEAVES) < gone");
        add("end: ahead of the wave", "int next = many < leaving.length ? gone | leaving[many] : gone;",
            "int next = gone | leaving[many]; next |= leaving[Integer.bitCount(next)];");
        String end = "if (!house.isGuest(first) || what < 0 || what > 1) {";
        add("end: refusals", end, "if (first < 0 || first > 9 || what < 0 || what > 1) {",
            end.replace("what < 0", "what < -1"), end.replace("what > 1", "what > 2"), end.replace("what > 1", "what > 0"));
        add("yawn: the fewest", "if (left < fewest) {", "if (left <= fewest) {", "if (left > fewest || best < 0) {");
        add("yawn: the fewest", "for (int guest = 0; guest < many; guest++) { int left",
            "for (int guest = 0; guest < many - 1; guest++) { int left");
        add("yawn: nobody", "int best = NOT;", "int best = 0;", "int best = BAD;");
        add("clear: the fewest", "Integer.bitCount(first) < Integer.bitCount(best)",
            "Integer.bitCount(first) <= Integer.bitCount(best)", "Integer.bitCount(first) > Integer.bitCount(best)");
        add("clear: all at last", "&& stayingBehind(first) == 0", "&& Integer.bitCount(stayingBehind(first)) < 2", "");
    }

    private void knows() {
        add("knows: minute 0", "for (int minute = 1; minute <= minutes; minute++)",
            "for (int minute = 0; minute <= minutes; minute++)");
        add("knows: minute 0", "if (minute > 0) { known", "if (minute >= 0) { known");
        add("knows: in the minute ahead", "minute <= minutes; minute++) { known = spread(known, minute);",
            "minute <= minutes; minute++) { known = spread(spread(known, minute), minute);");
        add("knows: in the minute ahead", "if (minute > 0) { known", "if (minute >= 0) { known");
        add("knows: beside it", "telling << 1 | telling >> 1", "telling << 1", "telling >> 1", "-1", "telling << 2 | telling >> 2");
        add("knows: beside it", "int telling = here & known;", "int telling = known;");
        add("knows: beside it", "telling << 1 | telling >> 1", "telling << 1 | telling >> 1 | telling << 9 | telling >> 9");
        add("knows: behind k minutes", "for (int minute = 1; minute <= minutes; minute++)",
            "for (int minute = 1; minute < minutes; minute++)", "for (int minute = 2; minute <= minutes; minute++)");
        String knows = "if (!house.isGuest(guest) || k < -1 || k > LAST_MINUTE) {";
        add("knows: behind k minutes", knows, knows.replace("> LAST_MINUTE", ">= LAST_MINUTE"),
            knows.replace("> LAST_MINUTE", "> LAST_MINUTE + 1"));
        add("knows: the first minute", "LAST_MINUTE + House.MOST_GUESTS", "LAST_MINUTE", "LAST_MINUTE + 7", "LAST_MINUTE - 1");
        add("knows: the first minute", "} return NOT; } private int spread", "} return BAD; } private int spread");
        add("knows: refusals", knows, knows.replace("k < -1", "k < -2"), knows.replace("k < -1", "k < 0"),
            knows.replace("!house.isGuest(guest)", "guest < 0 || guest > 9"));
    }

    private void deeds() {
        String made = "leaver = new Leaver(house, law); } int walk";
        add("in deed: at first", made, "leaver = new Leaver(house, law); leaver.begin(1, 0); } int walk",
            "leaver = new Leaver(house, law); leaver.begin(0, 1); } int walk");
        add("go", "House.isRoom(room) ? evening.walk(room) : BAD", "room >= 0 ? evening.walk(room) : BAD",
            "room < ROOMS ? evening.walk(room) : BAD", "room > 0 && room < ROOMS ? evening.walk(room) : BAD",
            "room >= 0 && room < ROOMS - 1 ? evening.walk(room) : BAD");
        add("goodbye", "goodbyes += whom == 0 ? 0 : 1; return whom;", "goodbyes += whom == 0 ? 0 : 1; return leaver.told();",
            "goodbyes += whom == 0 ? 0 : 1; return whom & 511;");
        add("stay", "n < 1 || n > LAST_MINUTE ? BAD", "n < 0 || n > LAST_MINUTE ? BAD", "n < 2 || n > LAST_MINUTE ? BAD",
            "n < 1 || n >= LAST_MINUTE ? BAD", "n < 1 || n > LAST_MINUTE + 1 ? BAD");
        add("leave: by the hall", "evening.inHall() ? evening.close() : STATE", "evening.close()",
            "!evening.inHall() ? evening.close() : STATE");
        add("leave: a new evening", "leaver.begin(HALL, 0);", "leaver.stand(HALL, 0, leaver.told());",
            "leaver.begin(HALL, leaver.minute());", "leaver.begin(1, 0);", "leaver.begin(HALL, 1);");
        add("leave: answer", "int all = house.missed(leaver.told()) == 0 ? 1 : 0;",
            "int all = leaver.told() == house.everybody() ? 1 : 0;", "int all = leaver.told() != 0 ? 1 : 0;", "int all = 1;");
        add("leave: answer", "evening.inHall() ? evening.close() : STATE", "evening.inHall() ? evening.close() : BAD");
        add("led: what", "return BAD; } } boolean hasImage", "return 0; } } boolean hasImage");
        add("led: what", "return done; case 5: return evenings;", "return evenings; case 5: return done;");
        add("led: goodbyes", "goodbyes += whom == 0 ? 0 : 1;", "goodbyes += 1;", "goodbyes += whom == 1 ? 1 : 0;");
        add("led: goodbyes", "evenings++;", "evenings++; goodbyes = 0;");
        add("image", "for (int i = 0; i < FACTS; i++) { kept[i] = told(i); }",
            "for (int i = 0; i < FACTS - 1; i++) { kept[i] = told(i); }", "for (int i = 1; i < FACTS; i++) { kept[i] = told(i); }");
        add("image", "leaver.stand(kept[1], kept[0], kept[2]);", "leaver.stand(kept[1], kept[0], leaver.told());",
            "leaver.stand(leaver.room(), kept[0], kept[2]);", "leaver.begin(kept[1], kept[0]);");
        add("image", "goodbyes = kept[3]; done = kept[4]; evenings = kept[5];", "done = kept[4]; evenings = kept[5];",
            "goodbyes = kept[3]; evenings = kept[5];", "goodbyes = kept[3]; done = kept[4];");
        add("image: the minute", "imageKept = true; return leaver.minute();", "imageKept = true; return 1;");
        add("image: the minute", "for (int i = 0; i < FACTS; i++) { kept[i] = told(i); }",
            "for (int i = 0; i < FACTS && !imageKept; i++) { kept[i] = told(i); }");
        add("back: none", "evening.hasImage() ? evening.layBack() : STATE", "evening.layBack()",
            "evening.hasImage() ? evening.layBack() : BAD");
    }

    private void changes() {
        add("changes: each", "if (before != v) {", "if (before != v && what != 7) {",
            "if (before != v && what != 0) {", "if (before != v && what != 4) {", "if (before != v && what != 6) {");
        add("changes: each", "changes.add(number, what, before, v);", "changes.add(number, what, v, v);",
            "changes.add(number, what, before, before);");
        add("changes: the same number", "if (before != v) {", "if (before != VOID) {");
        add("changes: the latest first", "house.setFact(numbers[done], whats[done], befores[done]);",
            "house.setFact(numbers[0], whats[0], befores[0]);", "house.setFact(numbers[done], whats[done], befores[0]);");
        add("changes: the latest first", "house.setFact(numbers[done], whats[done], afters[done]);",
            "house.setFact(numbers[known - 1], whats[known - 1], afters[known - 1]);");
        add("changes: none came behind", "known = done;", "known = Math.max(known, done);");
        add("changes: 40", "private static final int MOST = 40;", "private static final int MOST = 39;",
            "private static final int MOST = 41;");
        add("changes: 40", "dropOldest();", "return;");
        add("changes: deeds are none", "return House.isRoom(room) ? evening.walk(room) : BAD;",
            "changes.add(0, 3, 2, 2); return House.isRoom(room) ? evening.walk(room) : BAD;");
        add("changes: deeds are none", "return house.welcome(ab / 10, ab % 10, changes, TALK_AT_FIRST);",
            "this.changes.add(0, 3, 2, 2); return house.welcome(ab / 10, ab % 10, changes, TALK_AT_FIRST);");
        add("undo: none", "changes.takeBack() ? changes.undoable() : STATE", "changes.takeBack() ? changes.undoable() : 0",
            "changes.takeBack() ? changes.redoable() : STATE", "changes.undoable() > 1 && changes.takeBack() ? "
            + "changes.undoable() : STATE");
        add("redo: none", "changes.doAgain() ? changes.redoable() : STATE", "changes.doAgain() ? changes.redoable() : 0",
            "changes.doAgain() ? changes.undoable() : STATE", "changes.redoable() > 1 && changes.doAgain() ? "
            + "changes.redoable() : STATE");
    }

    private void bodies() {
        add("bodies 0 to 49", "MOST = 50, MOST_RAN", "MOST = 49, MOST_RAN", "MOST = 51, MOST_RAN");
        add("bodies 0 to 49", "if (bodies < 0 || bodies >= MOST) { return FULL; }",
            "if (bodies < 0 || bodies >= MOST) { return BAD; }");
        add("body: kind", "return Bodies.isKind(kind) ? bodies.add(kind) : BAD;", "return kind > 0 && kind < 8 ? "
            + "bodies.add(kind) : BAD;", "return kind >= 0 && kind < 7 ? bodies.add(kind) : BAD;", "return kind >= 0 && "
            + "kind < 9 ? bodies.add(kind) : BAD;", "return kind >= -1 && kind < 8 ? bodies.add(kind) : BAD;");
        add("act: none such", "if (!isBody(body) || act < 0 || act >= ACTS) { return 0; }",
            "if (!isBody(body) || act < 0 || act >= ACTS) { return BAD; }");
        add("act: none such", "runs = 0; if (!isBody(body) || act < 0 || act >= ACTS) { return 0; }",
            "if (!isBody(body) || act < 0 || act >= ACTS) { return 0; } runs = 0;",
            "runs = 0; if (!isBody(body)) { return 0; }",
            "runs = 0; if (!isBody(body) || act < 0 || act >= ACTS) { note(0); return 0; }");
        add("act: an int that wraps", "return x + n;",
            "return (int) Math.max(-2147483648L, Math.min(2147483647L, (long) x + n));");
        add("act: an int that wraps", "return call(own, SAYS, x, n, depth) * 2;",
            "return (int) Math.max(-2147483648L, Math.min(2147483647L, call(own, SAYS, x, n, depth) * 2L));");
        add("act: an int that wraps", "return -call(above, STAYS, x, n, depth);",
            "return -Math.max(-2147483647, call(above, STAYS, x, n, depth));");
        add("act: an int that wraps", "return call(above, STAYS, x + 1, n, depth);",
            "return call(above, STAYS, Math.max(x, x + 1), n, depth);");
        add("act: an int that wraps", "return call(above, TURNS, x, n, depth) * 3;",
            "return (int) Math.max(-2147483648L, Math.min(2147483647L, call(above, TURNS, x, n, depth) * 3L));");
        add("act: n", "return x + n;", "return x + n + 1;", "return x + own;");
        add("act: n", "return x ^ n;", "return x ^ own;");
        add("act: from above", "{-1, 0, 0, 2, 1, 3, 0, 6}", "{-1, 0, 0, 0, 1, 3, 0, 6}", "{-1, 0, 0, 2, 0, 3, 0, 6}",
            "{-1, 0, 0, 2, 1, 2, 0, 6}", "{-1, 0, 0, 2, 1, 3, 2, 6}", "{-1, 0, 0, 2, 1, 3, 0, 0}");
        add("act: from above", "return call(own, STAYS, x, n, depth) - call(own, TURNS, 1, n, depth);",
            "return -call(own, TURNS, 1, n, depth) + call(own, STAYS, x, n, depth);");
        add("trace: the latest", "runs = 0; if (!isBody(body) || act < 0 || act >= ACTS) { return 0; }",
            "if (!isBody(body) || act < 0 || act >= ACTS) { return 0; }");
        add("trace: the latest", "MOST_RAN = 24", "MOST_RAN = 9");
        add("trace: i", "return i >= 0 && i < runs && i < MOST_RAN ? ran[i] : BAD;",
            "return i >= 0 && i <= runs && i < MOST_RAN ? ran[i] : BAD;", "return i >= 0 && i < MOST_RAN ? ran[i] : BAD;",
            "return i > 0 && i < runs && i < MOST_RAN ? ran[i] : BAD;", "return i < runs ? ran[Math.max(i, 0)] : BAD;",
            "return i >= 0 && i < runs && i < MOST_RAN ? ran[i] : NOT;");
        add("taken", "if (place == null || !Bodies.isKind(k)) {", "if (place == null || k < -1 || k > 7) {",
            "if (place == null || k < 0 || k > 8) {", "if (place == null || k < 0 || k > 6) {");
        add("taken", "return Bodies.isUnder(kind, k) ? kind : OTHER_KIND;", "return kind == k ? kind : OTHER_KIND;",
            "return Bodies.isUnder(kind, k) ? k : OTHER_KIND;", "return Bodies.isUnder(k, kind) ? kind : OTHER_KIND;");
        add("taken", "place.holdsBody() ? bodies.kindOf(place.heldBody()) : -1", "bodies.kindOf(place.heldBody())");
        add("count: what", "return bodies.runCount(); default: return BAD;", "return bodies.runCount(); default: return 0;",
            "return Math.min(9, bodies.runCount()); default: return BAD;");
        add("count: each", "return Integer.bitCount(house.missed(0));",
            "return Integer.bitCount(house.missed(evening.told(2)));", "return house.missed(0);", "return house.guestCount();");
        add("count: each", "return changes.undoable(); case 4:", "return changes.redoable(); case 4:");
    }

    private void shelves() {
        add("shelves 0 to 5", "SHELVES = 6", "SHELVES = 5", "SHELVES = 7");
        add("shelves 0 to 5", "private int holding = NOTHING;", "private int holding = ROW;");
        add("row: 0 to 60", "static final int MOST = 60;", "static final int MOST = 59;", "static final int MOST = 61;");
        add("row: 0 to 60", "for (int i = 0; i < size; i++) { elements[i] = 0L; }",
            "for (int i = 1; i < size; i++) { elements[i] = 0L; }", "for (int i = 0; i < size - 1; i++) { elements[i] = 0L; }");
        add("put: lowest bits", "return (byte) v;", "return v & 255L;", "return Math.max(-128L, Math.min(127L, v));");
        add("put: lowest bits", "return (short) v;", "return v & 65535L;", "return Math.max(-32768L, Math.min(32767L, v));");
        add("put: lowest bits", "return (int) v;", "return v & 4294967295L;", "return Math.max(-2147483648L, "
            + "Math.min(2147483647L, v));");
        add("put: lowest bits", "case LONGS: return v;", "case LONGS: return (int) v;");
        add("put: a boolean", "return v != 0L ? 1L : 0L;", "return v & 1L;", "return v > 0L ? 1L : 0L;",
            "return (int) v != 0 ? 1L : 0L;", "return v;");
        String keep = "if (place == null || (body != -1 && !bodies.isBody(body))) {";
        add("keep", keep, "if (place == null || (body >= 0 && !bodies.isBody(body))) {",
            "if (place == null || !bodies.isBody(body)) {", "if (place == null) {");
        String row = "if (place == null || !Shelf.isSort(sort) || n > Shelf.MOST) {";
        add("row: refusals", row, row.replace("!Shelf.isSort(sort)", "sort < 0"), row.replace("!Shelf.isSort(sort)",
            "sort > 4"), row.replace("|| n > Shelf.MOST", ""), row.replace("!Shelf.isSort(sort)", "sort < -1 || sort > 4"),
            row.replace("!Shelf.isSort(sort)", "sort < 0 || sort > 5"));
        add("row: refusals", "if (n < 0) { return BELOW_ZERO; }", "if (n < 0) { return BAD; }",
            "if (n < -1) { return BELOW_ZERO; }", "if (n < 1) { return BELOW_ZERO; }");
        add("put: refusals", "return hasPlaces(i, 1) ? 0 : NO_PLACE;", "return hasPlaces(i, 0) ? 0 : NO_PLACE;",
            "return hasPlaces(i, 2) ? 0 : NO_PLACE;", "return i >= 0 && i < MOST ? 0 : NO_PLACE;",
            "return i < size ? 0 : NO_PLACE;", "return hasPlaces(i, 1) ? 0 : BAD;");
        add("element: refusals", "return NO_ELEMENT;", "return BAD;", "return 0L;");
        add("element: refusals", "return hasPlaces(i, 1) ? 0 : NO_PLACE;", "return hasPlaces(i, 0) ? 0 : NO_PLACE;",
            "return i >= 0 && i < MOST ? 0 : NO_PLACE;");
    }

    private void shifts() {
        add("shift: as they were", "System.arraycopy(from.elements, i, elements, j, n);",
            "for (int k = 0; k < n; k++) { elements[j + k] = from.elements[i + k]; }",
            "for (int k = n - 1; k >= 0; k--) { elements[j + k] = from.elements[i + k]; }");
        add("shift: as they were", "return i >= 0 && n >= 0 && n <= size && i <= size - n;",
            "return i >= 0 && n >= 0 && n <= size && i < size && i <= size - n;",
            "return i >= 0 && n > 0 && n <= size && i <= size - n;");
        add("shift: nothing there", "if (from.isEmpty() || to.isEmpty()) {", "if (from.isEmpty()) {", "if (to.isEmpty()) {",
            "if (from.isEmpty() && to.isEmpty()) {");
        String kinds = "if (!from.holdsRow() || !to.holdsRow() || from.sort() != to.sort()) {";
        add("shift: other kinds", kinds, "if (!from.holdsRow() || !to.holdsRow()) {",
            "if (!from.holdsRow() || from.sort() != to.sort()) {", "if (!to.holdsRow() || from.sort() != to.sort()) {",
            "if (from.sort() > to.sort() || !from.holdsRow() || !to.holdsRow()) {");
        String places = "if (!from.hasPlaces(i, n) || !to.hasPlaces(j, n)) {";
        add("shift: places", places, "if (!from.hasPlaces(i, n)) {", "if (!to.hasPlaces(j, n)) {");
        add("shift: places", "return i >= 0 && n >= 0 && n <= size && i <= size - n;",
            "return i >= 0 && n <= size && i <= size - n;", "return n >= 0 && n <= size && i <= size - n;",
            "return i >= 0 && n >= 0 && n <= size && i < size - n;", "return i >= 0 && n >= 0 && i + n <= size;");
    }

    private void answers() {
        add("answers: BAD ahead of NOT", "if (!isRoomMinute(rm) || k < -1) {", "if (!isRoomMinute(rm)) {");
        add("answers: BAD ahead of FULL", "if (!isRoomPair(ab)", "if (house.guestCount() == 10) { return FULL; } "
            + "if (!isRoomPair(ab)");
        add("answers: BAD ahead of FULL", "if (letter < 0", "if (tape.length() == 120) { return FULL; } if (letter < 0");
        add("answers: BAD ahead of FULL", "return Bodies.isKind(kind) ? bodies.add(kind) : BAD;",
            "return bodies.bodyCount() == 50 ? FULL : Bodies.isKind(kind) ? bodies.add(kind) : BAD;");
        add("answers: BAD ahead of -11", "if (rooms == null || !isRoomMinute(rm)",
            "if (rooms != null && rooms.isEmpty()) { return NOTHING_THERE; } if (rooms == null || !isRoomMinute(rm)");
        add("answers: BAD ahead of -11", "if (minute < 0 || minute > LAST_MINUTE", "if (refusalOfBoth(one, other) != 0) "
            + "{ return refusalOfBoth(one, other); } if (minute < 0 || minute > LAST_MINUTE");
        add("answers: BAD ahead of -11", "if (pile == null || !house.isGuest(guest)) {",
            "if (pile != null && pile.isEmpty()) { return NOTHING_THERE; } if (pile == null || !house.isGuest(guest)) {");
        add("answers: BAD ahead of -11", "if (twos == null || !isRoomMinute(rm)) {",
            "if (twos != null && twos.isEmpty()) { return NOTHING_THERE; } if (twos == null || !isRoomMinute(rm)) {");
        add("answers: BAD ahead of -12", "if (threes == null || n < 1", "if (threes != null && threes.bytesRefusal() == "
            + "OTHER_KIND) { return OTHER_KIND; } if (threes == null || n < 1");
        add("answers: BAD ahead of -12", "if (rooms == null || !isRoomMinute(rm)", "if (rooms != null && "
            + "rooms.bytesRefusal() == OTHER_KIND) { return OTHER_KIND; } if (rooms == null || !isRoomMinute(rm)");
        add("answers: BAD ahead of -12", "if (place == null || !Bodies.isKind(k)) {",
            "if (place != null && place.holdsRow()) { return OTHER_KIND; } if (place == null || !Bodies.isKind(k)) {");
        add("answers: BAD ahead of -13, -14", "if (place == null || !Shelf.isSort(sort) || n > Shelf.MOST) {",
            "if (n < 0) { return BELOW_ZERO; } if (place == null || !Shelf.isSort(sort) || n > Shelf.MOST) {");
        add("answers: -11 ahead of -12", "if (one.isEmpty() || other.isEmpty()) {",
            "if (one.isEmpty() || (one.holdsBytes() && other.isEmpty())) {",
            "if (other.isEmpty() || (other.holdsBytes() && one.isEmpty())) {");
        add("answers: -11 ahead of -12", "if (from.isEmpty() || to.isEmpty()) {",
            "if (from.isEmpty() || (from.holdsRow() && to.isEmpty())) {");
        add("answers: -12 ahead of -13", "if (!from.holdsRow() || !to.holdsRow()",
            "if (from.holdsRow() && !from.hasPlaces(i, n)) { return NO_PLACE; } if (!from.holdsRow() || !to.holdsRow()");
        add("answers: -12 ahead of -13", "if (!holdsRow()) { return OTHER_KIND; }",
            "if (!hasPlaces(i, 1)) { return NO_PLACE; } if (!holdsRow()) { return OTHER_KIND; }");
        add("answers: -14", "BELOW_ZERO = -14", "BELOW_ZERO = -13");
    }

    private void refused() {
        add("refused: BAD", "if (!house.hasFact(number, what) || !House.fits(what, v)) {",
            "if (house.hasFact(number, what) && what == 7) { house.setFact(number, what, v); } "
            + "if (!house.hasFact(number, what) || !House.fits(what, v)) {");
        add("refused: BAD", "return n < 1 || n > LAST_MINUTE ? BAD : evening.linger(n);",
            "return evening.linger(n) != VOID && (n < 1 || n > LAST_MINUTE) ? BAD : evening.told(0);");
        add("refused: BAD", "if (letter < 0 || letter > 255) { return BAD; }",
            "if (letter < 0 || letter > 255) { tape.empty(); return BAD; }");
        add("refused: BAD", "if (place == null || (body != -1 && !bodies.isBody(body))) {",
            "if (place != null) { place.holdNothing(); } if (place == null || (body != -1 && !bodies.isBody(body))) {");
        add("refused: NOT", "return place < 0 ? NOT : pile.above(place, 0L);",
            "if (place < 0) { pile.holdNothing(); } return place < 0 ? NOT : pile.above(place, 0L);");
        add("refused: NOT", "if (search.find(room, minute, home)) { return minute; } } return NOT;",
            "if (search.find(room, minute, home)) { return minute; } } evening.linger(1); return NOT;");
        add("refused: FULL", "return tape.add(letter) ? tape.length() : FULL;",
            "if (tape.add(letter)) { return tape.length(); } tape.empty(); return FULL;");
        add("refused: FULL", "if (guests >= MOST_GUESTS) { return FULL;",
            "if (guests >= MOST_GUESTS) { setFact(9, ONE_ROOM, one); return FULL;");
        add("refused: FULL", "if (bodies < 0 || bodies >= MOST) { return FULL; }",
            "if (bodies < 0 || bodies >= MOST) { kinds[0] = kind; return FULL; }");
        add("refused: STATE", "return evening.inHall() ? evening.close() : STATE;",
            "if (!evening.inHall()) { evening.walk(HALL); return STATE; } return evening.close();");
        add("refused: STATE", "if (done < 0 || done >= known || done >= MOST) { return false; }",
            "if (done < 0 || done >= known || done >= MOST) { done = 0; return false; }");
        add("refused: STATE", "if (done < 1 || done > MOST) { return false; }",
            "if (done < 1 || done > MOST) { known = 0; return false; }");
        add("refused: -11 to -14", "if (n < 0) { return BELOW_ZERO; }", "if (n < 0) { place.holdNothing(); return BELOW_ZERO; }");
        add("refused: -11 to -14", "int refusal = place.elementRefusal(i); if (refusal != 0) {",
            "int refusal = place.elementRefusal(i); if (refusal != 0) { place.holdNothing();");
        add("refused: -11 to -14", "if (!from.hasPlaces(i, n) || !to.hasPlaces(j, n)) {",
            "if (!from.hasPlaces(i, n) || !to.hasPlaces(j, n)) { from.write(0, 9L);");
        add("refused: -11 to -14", "if (from.isEmpty() || to.isEmpty()) {",
            "if (from.isEmpty() || to.isEmpty()) { from.write(0, 9L);");
        add("refused: -11 to -14", "return Bodies.isUnder(kind, k) ? kind : OTHER_KIND;",
            "if (!Bodies.isUnder(kind, k)) { place.holdNothing(); return OTHER_KIND; } return kind;");

        add("memory", "private final int[] kinds = new int[MOST];", "private static final int[] kinds = new int[MOST];");
        add("memory", "private final long[] elements = new long[MOST];",
            "private static final long[] elements = new long[MOST];");
        add("512 calls", "void linger(int minutes) { minute += minutes; }",
            "void linger(int minutes) { minute = Math.min(50489, minute + minutes); }");
    }
}
