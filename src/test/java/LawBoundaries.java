/** Terms 1, the law and a goodbye; promises 8 and 9. */
final class LawBoundaries {
    private static final int TALK = 3, MUST = 4, HOST = 5;

    private LawBoundaries() {
    }

    static void addTo(Boundaries b) {
        b.add("tape: a byte", "A byte (0 .. 255) comes to THE TAPE: how many it has. BAD", LawBoundaries::aByte);
        b.add("tape: full", "BAD, FULL (120).", LawBoundaries::fullTape);
        b.add("law: 120 bytes", "THE LAW is a TEXT by THE TAPE (at most 120 bytes)", LawBoundaries::longText);
        b.add("law: answer", "THE TAPE becomes THE LAW: 1; -100 less its FAULT", LawBoundaries::lawAnswer);
        b.add("law: the tape is empty then", "THE TAPE is empty then.", LawBoundaries::emptyThen);
        b.add("law: lines", "LINES, one or more, parted by ;", LawBoundaries::lines);
        b.add("law: a line", "LINE: E, or E ? E (what counts if the first is not 0)", LawBoundaries::line);
        b.add("law: joined", "E = A { | A }. A = B { & B }.", LawBoundaries::joined);
        b.add("law: summed", "S = P { + P, - P }. P = O { * O, / O, % O }.", LawBoundaries::summed);
        b.add("law: comparing", "B = S, or S < S, S = S, S > S.", LawBoundaries::comparing);
        b.add("law: a number", "a number (1 to 4 digits)", LawBoundaries::number);
        b.add("law: no blanks", "No blanks.", LawBoundaries::noBlanks);
        b.add("law: open", "At most 6 of ( ! - ahead of an O are open at once.", LawBoundaries::open);
        b.add("law: fault", "the place (from 0) of the first byte with which no TEXT goes on", LawBoundaries::fault);
        b.add("law: too early", "the length, if it ends too early", LawBoundaries::tooEarly);
        b.add("law: t", "t the greatest TALK of those who are in that ROOM and are still to be told", LawBoundaries::t);
        b.add("law: n", "n how many are still to be told there", LawBoundaries::n);
        b.add("law: a", "a how many are there in all", LawBoundaries::a);
        b.add("law: h", "h 1 if a HOST is to be told there", LawBoundaries::h);
        b.add("law: m", "m the minute", LawBoundaries::m);
        b.add("law: ints that wrap", "Ints that wrap", LawBoundaries::wrap);
        b.add("law: toward 0", "/ and % toward 0, by 0 they give 0", LawBoundaries::towardZero);
        b.add("law: 1, 0", "| & < = > ! give 1, 0; all is worked out.", LawBoundaries::oneOrZero);
        b.add("law: first line", "The first LINE without a first E, or whose first E is not 0, counts",
            LawBoundaries::firstLine);
        b.add("law: none counts", "whose first E is not 0, counts; none: 0.", LawBoundaries::noLine);
        b.add("law: 1 to 30", "how many minutes a GOODBYE takes there (held within 1 .. 30)", LawBoundaries::held);
        b.add("law: without a text", "Without a text t and n (1 at least).", LawBoundaries::withoutText);
        b.add("goodbye: as it begins", "all that MUST be told, are there as it begins", LawBoundaries::asItBegins);
        b.add("goodbye: hosts", "(of HOSTS only if all others that MUST have been told, or are among those)",
            LawBoundaries::hosts);
        b.add("goodbye: all at once", "are told at its end; all at once.", LawBoundaries::atOnce);
        b.add("goodbye: none to be told", "None to be told: it takes no minute.", LawBoundaries::noneToBeTold);
        b.add("goodbye: told and comes later",
            "Whoever is told and comes later into a ROOM in which another GOODBYE is said matters no more.",
            LawBoundaries::comesLater);
    }

    private static void aByte() {
        GoodbyeAll x = new GoodbyeAll();
        for (int letter : Boundaries.outside(0, 255)) {
            Due.be("feed(" + letter + ")", x.feed(letter), -1);
        }
        Due.be("none came", x.count(2), 0);
        Due.be("the least", x.feed(0), 1);
        Due.be("the greatest", x.feed(255), 2);
        Due.be("both came", x.count(2), 2);
    }

    private static void fullTape() {
        GoodbyeAll x = new GoodbyeAll();
        for (int i = 1; i <= 120; i++) {
            Due.be("byte " + i, x.feed('7'), i);
        }
        Due.be("byte 121", x.feed('7'), -3);
        Due.be("byte 122", x.feed(0), -3);
        Due.be("120 bytes", x.count(2), 120);
        Due.be("its fault", x.law(), -104);
        Due.be("room again", x.feed('7'), 1);
    }

    private static String text120(String first, String last) {
        StringBuilder text = new StringBuilder(first);
        while (text.length() < 120 - last.length()) {
            text.append("+1");
        }
        return text.append(last).toString();
    }

    private static void longText() {
        GoodbyeAll x = Boundaries.inTheHall(1);
        String text = text120("0-46", "-6");
        Due.be("120 bytes", text.length(), 120);
        // 57 times +1, less 46, less 6.
        Due.be("it is the law", Due.law(x, text), 1);
        x.goodbye();
        Due.be("all of it counts", x.led(0), 57 - 46 - 6);
        Due.be("each byte", Due.law(x, text120("0-46", "-!")), -220);
    }

    private static void lawAnswer() {
        GoodbyeAll x = Boundaries.inTheHall(1);
        Due.be("the law", Due.law(x, "17"), 1);
        Due.be("a fault at once", Due.law(x, "?"), -100);
        Due.be("a fault", Due.law(x, "9?18+;"), -105);
        x.goodbye();
        Due.be("a text with a fault is no law", x.led(0), 17);
    }

    private static void emptyThen() {
        GoodbyeAll x = new GoodbyeAll();
        Due.be("the law", Due.law(x, "17"), 1);
        Due.be("empty", x.count(2), 0);
        Due.be("a fault", Due.law(x, "17+++"), -103);
        Due.be("empty", x.count(2), 0);
        Due.be("the first byte again", x.feed('1'), 1);
    }

    private static void fault(String text, int place) {
        Due.be("law " + text, Due.law(new GoodbyeAll(), text), -100 - place);
    }

    private static void right(String text) {
        Due.be("law " + text, Due.law(new GoodbyeAll(), text), 1);
    }

    /** What a goodbye takes by that law; one guest in the hall: t 2, n 1, a 1, h 0, m 0. */
    private static void takes(String text, int minutes) {
        GoodbyeAll x = Boundaries.inTheHall(1);
        Due.be("law " + text, Due.law(x, text), 1);
        Due.be("it is told", x.goodbye(), 1);
        Due.be("minutes by " + text, x.led(0), minutes);
    }

    /** Whether that first E is not 0. */
    private static void so(String e, boolean so) {
        takes(e + "?20;10", so ? 20 : 10);
    }

    private static void lines() {
        Due.be("no line", new GoodbyeAll().law(), -100);
        right("7");
        right("7;7");
        right("1;2;3;4;5;6;7;8;9;1;2;3;4;5;6;7;8;9;1;2;3;4;5;6;7;8;9;1;2;3;4;5;6;7;8;9;1;2;3;4;5;6;7;8;9");
        fault(";", 0);
        fault("7;", 2);
        fault("7;;7", 2);
    }

    private static void line() {
        takes("7", 7);
        takes("1?7;8", 7);
        takes("0?7;8", 8);
        takes("0-1?7;8", 7);
        fault("?7", 0);
        fault("1?", 2);
        fault("1?7?8", 3);
        fault("1?;", 2);
        fault("(1?7)", 2);
        right("1?7;1?8");
        right("0|1&1<2+3*4?0|1&1<2+3*4");
        takes("0|1?0|7;9", 1);
    }

    private static void joined() {
        takes("7", 7);
        so("0|0|0|0|3", true);
        so("1&2&3&4&0", false);
        so("1|1&0", true);
        so("0&1|1", true);
        so("0&(1|1)", false);
        fault("|1", 0);
        fault("&1", 0);
        fault("1|", 2);
        fault("1&|1", 2);
    }

    private static void summed() {
        takes("1+1+1+1+1+1+1", 7);
        takes("20-5-4", 11);
        takes("20-(5-4)", 19);
        takes("100/10/2", 5);
        takes("100/(10/2)", 20);
        takes("2+3*4", 14);
        takes("20-2*3", 14);
        takes("29%10*2", 18);
        takes("2*29%10", 8);
        fault("+1", 0);
        fault("*1", 0);
        fault("1+*1", 2);
        fault("1*/1", 2);
    }

    private static void comparing() {
        right("1<2");
        right("1=2");
        right("1>2");
        right("1<2&1<2|1=2");
        right("(1<2)>3");
        fault("1<2<3", 3);
        fault("1=2>3", 3);
        fault("1>2=3", 3);
        fault("1<", 2);
        fault("<1", 0);
        fault("1&2>3<4", 5);
    }

    private static void number() {
        takes("7", 7);
        takes("0007", 7);
        takes("9999/1000", 9);
        so("9999=9*1111", true);
        so("0=0000", true);
        fault("12345", 4);
        fault("00000", 4);
        fault("1+99999", 6);
        fault("+", 0);
    }

    private static void noBlanks() {
        fault(" 1", 0);
        fault("1 ", 1);
        fault("1 +1", 1);
        fault("1+ 1", 2);
        fault("1;\n1", 2);
        fault("1\t", 1);
    }

    private static void open() {
        String[] six = {"((((((1))))))", "!!!!!!1", "------1", "(!-(!-1))", "((((((t))))))", "(((((!n)))))"};
        for (String text : six) {
            right(text);
            right(text + "+" + text);
            right("1-" + text);
            right(text + "?" + text + ";" + text);
        }
        String[] seven = {"(((((((1)))))))", "!!!!!!!1", "-------1", "(!-(!-(1)))", "((((((!1))))))", "((((((-1))))))",
            "!!!!!!(1)", "------!1"};
        for (String text : seven) {
            fault(text, 6);
            fault("1-" + text, 8);
            fault("1?" + text, 8);
            fault("1;" + text, 8);
        }
        fault("((((((1)+(1)+-!1)))))", 13 + 1);
    }

    private static void fault() {
        fault("x", 0);
        fault("1x", 1);
        fault("1+x", 2);
        fault("tn", 1);
        fault("t1", 1);
        fault("1t", 1);
        fault(")", 0);
        fault("1)", 1);
        fault("()", 1);
        fault("(1))", 3);
        fault("(1;", 2);
        fault("1(", 1);
        fault("1!", 1);
        fault("1+-*", 3);
        fault("1&&1", 2);
        fault("12345", 4);
        fault("1*12345", 6);
        fault("(1)1", 3);
        fault("" + (char) 0, 0);
        fault("1" + (char) 255, 1);
        fault("1;1;1;1?1;1#", 11);
    }

    private static void tooEarly() {
        fault("", 0);
        fault("1+", 2);
        fault("1*2-", 4);
        fault("!", 1);
        fault("-", 1);
        fault("(", 1);
        fault("(1", 2);
        fault("((1)", 4);
        fault("1|", 2);
        fault("1&", 2);
        fault("1>", 2);
        fault("1?", 2);
        fault("1;", 2);
    }

    /** Guest 0 told in room 1 by then, guest 1 to be told, guest 2 need not be, guest 3 elsewhere, guest 4 a host. */
    private static GoodbyeAll hallAt20(String text, boolean hostMayBeTold) {
        GoodbyeAll x = new GoodbyeAll();
        x.guest(10, 20);
        x.guest(20, 20);
        x.guest(0, 0);
        x.guest(44, 0);
        x.guest(0, 0);
        x.mend(0, TALK, 9);
        x.mend(1, TALK, 5);
        x.mend(2, TALK, 8);
        x.mend(2, MUST, 0);
        x.mend(3, TALK, 7);
        x.mend(3, MUST, hostMayBeTold ? 0 : 1);
        x.mend(4, TALK, 6);
        x.mend(4, HOST, 1);
        x.go(1);
        Due.be("guest 0", x.goodbye(), 1);
        Due.be("the law", Due.law(x, text), 1);
        x.stay(99);
        x.go(0);
        return x;
    }

    private static void minutesInHall(String text, boolean hostMayBeTold, int minutes) {
        GoodbyeAll x = hallAt20(text, hostMayBeTold);
        int begin = x.led(0);
        Due.be("who is told", x.goodbye(), hostMayBeTold ? 2 + 16 : 2);
        Due.be("minutes by " + text, x.led(0) - begin, minutes);
    }

    private static void t() {
        minutesInHall("t", false, 5);
        minutesInHall("t", true, 6);
        GoodbyeAll x = Boundaries.inTheHall(1);
        x.mend(0, TALK, 0);
        Due.law(x, "t+7");
        x.goodbye();
        Due.be("the least", x.led(0), 7);
    }

    private static void n() {
        minutesInHall("n", false, 1);
        minutesInHall("n", true, 2);
        GoodbyeAll x = Boundaries.inTheHall(10);
        Due.law(x, "n*2");
        x.goodbye();
        Due.be("all ten", x.led(0), 20);
    }

    private static void a() {
        minutesInHall("a", false, 4);
        minutesInHall("a", true, 4);
        GoodbyeAll x = Boundaries.inTheHall(10);
        Due.law(x, "a*2");
        x.goodbye();
        Due.be("all ten", x.led(0), 20);
    }

    private static void h() {
        minutesInHall("h+7", false, 7);
        minutesInHall("h+7", true, 8);
        GoodbyeAll x = Boundaries.inTheHall(2);
        x.mend(0, HOST, 1);
        x.mend(1, HOST, 1);
        Due.law(x, "h+7");
        x.goodbye();
        Due.be("two hosts give 1, too", x.led(0), 8);
    }

    private static void m() {
        GoodbyeAll x = Boundaries.inTheHall(1);
        Due.law(x, "m+3");
        x.row(0, 0, 1);
        Due.be("minute 0", x.round(0, 0, 0), 3);
        Due.be("minute 20", x.round(0, 20, 0), 43);
        Due.law(x, "m-90");
        Due.be("minute 99", x.round(0, 99, 0), 108);
        Due.be("behind minute 99: it goes on", x.round(0, 499, 0), 103 + 13);
    }

    private static void wrap() {
        // 8192 * 8192 * 32 is 1 beyond the greatest int.
        so("8192*8192*32<0", true);
        so("8192*8192*31<0", false);
        so("8192*8192*64=0", true);
        so("8192*8192*16+8192*8192*16<0", true);
        so("8192*8192*32-1>0", true);
        so("0-8192*8192*16-8192*8192*16-1>0", true);
        so("-(8192*8192*32)<0", true);
        so("0-8192*8192*32=8192*8192*32", true);
    }

    private static void towardZero() {
        takes("7/2", 3);
        so("-7/2=-3", true);
        so("7/-2=-3", true);
        so("-7/-2=3", true);
        so("-7%4=-3", true);
        so("7%-4=3", true);
        so("-7%-4=-3", true);
        so("7/0=0", true);
        so("-7/0=0", true);
        so("7%0=0", true);
        so("-7%0=0", true);
        so("0/0=0", true);
        so("0%0=0", true);
        so("7/(t-2)=0", true);
        so("8192*8192*32/-1<0", true);
        so("8192*8192*32%-1=0", true);
    }

    private static void oneOrZero() {
        String[] one = {"7|0", "0|-1", "7|9", "7&9", "-1&8", "1<2", "-1<0", "2=2", "3>2", "!0", "!!7"};
        String[] zero = {"0|0", "7&0", "0&7", "0&0", "2<2", "2<1", "2=3", "2>2", "2>3", "!7", "!-1", "!1"};
        for (String e : one) {
            so("(" + e + ")=1", true);
        }
        for (String e : zero) {
            so("(" + e + ")=0", true);
        }
        so("1|1/0", true);
        so("0&1%0", false);
        so("(1|1/0)+(0&8192*8192*32/-1)=1", true);
    }

    private static void firstLine() {
        takes("7;8;9", 7);
        takes("0?7;8;9", 8);
        takes("0?7;0?8;9", 9);
        takes("0?7;1?8;9", 8);
        takes("0?7;0?8;0?9;1?11", 11);
        takes("8192*8192*32?7;8", 7);
        takes("t-2?7;8", 8);
        takes("0;7", 1);
    }

    private static void noLine() {
        takes("0?9", 1);
        takes("0?9;0?8;1-1?7", 1);
        takes("t=3?9;t=4?8", 1);
    }

    private static void held() {
        takes("0", 1);
        takes("-5", 1);
        takes("8192*8192*32", 1);
        takes("1", 1);
        takes("2", 2);
        takes("29", 29);
        takes("30", 30);
        takes("31", 30);
        takes("9999", 30);
        takes("8192*8192*32-1", 30);
    }

    private static void withoutText() {
        GoodbyeAll least = Boundaries.inTheHall(1);
        least.mend(0, TALK, 0);
        least.goodbye();
        Due.be("t 0, n 1", least.led(0), 1);
        GoodbyeAll x = Boundaries.inTheHall(1);
        x.goodbye();
        Due.be("t 2, n 1", x.led(0), 3);
        GoodbyeAll most = Boundaries.inTheHall(10);
        most.mend(7, TALK, 9);
        most.goodbye();
        Due.be("t 9, n 10", most.led(0), 19);
    }

    private static void asItBegins() {
        GoodbyeAll x = new GoodbyeAll();
        x.guest(4, 1);
        x.guest(40, 1);
        x.guest(40, 0);
        x.guest(4, 0);
        Due.be("who goes a minute later is told, who comes then is not", x.goodbye(), 1 + 4);
        Due.be("then who has come by its end", x.goodbye(), 2);
        GoodbyeAll y = new GoodbyeAll();
        y.guest(40, 5);
        y.stay(4);
        Due.be("a minute too early", y.goodbye(), 0);
        y.stay(1);
        Due.be("in that minute", y.goodbye(), 1);
    }

    private static void hosts() {
        GoodbyeAll x = Boundaries.guestsIn(0, 0, 1);
        x.mend(0, HOST, 1);
        Due.be("one of the others is elsewhere", x.goodbye(), 2);
        Due.be("still", x.goodbye(), 0);
        x.go(1);
        x.goodbye();
        x.go(0);
        Due.be("all others have been told", x.goodbye(), 1);
        GoodbyeAll among = Boundaries.guestsIn(0, 0);
        among.mend(0, HOST, 1);
        Due.be("all others are among those", among.goodbye(), 3);
        GoodbyeAll need = Boundaries.guestsIn(0, 1);
        need.mend(0, HOST, 1);
        need.mend(1, MUST, 0);
        Due.be("the other one need not be told", need.goodbye(), 1);
        GoodbyeAll alone = Boundaries.guestsIn(0, 1);
        alone.mend(0, HOST, 1);
        alone.mend(1, HOST, 1);
        Due.be("hosts alone", alone.goodbye(), 1);
        alone.mend(1, MUST, 0);
        Due.be("a host that need not be told", alone.leave(), 1);
    }

    private static void atOnce() {
        GoodbyeAll x = Boundaries.inTheHall(10);
        Due.law(x, "5");
        Due.be("all", x.goodbye(), 1023);
        Due.be("at once", x.led(0), 5);
        Due.be("one goodbye", x.led(3), 1);
    }

    private static void noneToBeTold() {
        GoodbyeAll x = Boundaries.guestsIn(1, 1, 2);
        x.mend(0, MUST, 0);
        x.mend(1, HOST, 1);
        Due.law(x, "9");
        Due.be("nobody is there", x.goodbye(), 0);
        Due.be("no minute", x.led(0), 0);
        x.go(1);
        Due.be("one need not be told, a host waits", x.goodbye(), 0);
        Due.be("no minute", x.led(0), 1);
        x.go(2);
        x.goodbye();
        Due.be("nine minutes", x.led(0), 11);
        Due.be("all there are told", x.goodbye(), 0);
        Due.be("no minute", x.led(0), 11);
    }

    private static void comesLater() {
        GoodbyeAll x = new GoodbyeAll();
        x.guest(10, 10);
        x.guest(0, 0);
        x.mend(0, TALK, 9);
        Due.law(x, "t+n");
        x.go(1);
        Due.be("told in room 1", x.goodbye(), 1);
        x.go(0);
        Due.be("it is in the hall by now", x.in(0, x.led(0)), 3);
        Due.be("only the other one is told", x.goodbye(), 2);
        Due.be("by its own talk", x.led(0), 1 + 10 + 1 + 3);
        Due.be("both have been told", x.goodbye(), 0);
        Due.be("whoever came later", x.leave(), 1);
    }
}
