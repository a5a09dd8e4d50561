/** Promises 8 and 9: the tape, the law and its faults. */
public final class LawTest {
    public static void main(String[] args) {
        tape();
        faults();
        worths();
        names();
        bounds();
        keptLaw();
        Due.close();
    }

    private static void tape() {
        GoodbyeAll x = new GoodbyeAll();
        Due.be("feed(-1)", x.feed(-1), -1);
        Due.be("feed(256)", x.feed(256), -1);
        Due.be("feed(far)", x.feed(Integer.MIN_VALUE), -1);
        Due.be("feed(0)", x.feed(0), 1);
        Due.be("feed(255)", x.feed(255), 2);
        Due.be("count", x.count(2), 2);
        Due.be("no law", x.law(), -100);
        Due.be("the tape is empty", x.count(2), 0);
        for (int i = 1; i <= 120; i++) {
            Due.be("byte " + i, x.feed(i % 2 == 1 ? '1' : '+'), i);
        }
        Due.be("byte 121", x.feed('1'), -3);
        Due.be("bad ahead of full", x.feed(256), -1);
        Due.be("count", x.count(2), 120);
        Due.be("it ends too early", x.law(), -220);
        Due.be("empty", x.count(2), 0);
        Due.be("an empty tape", x.law(), -100);
    }

    /** A text and its fault; -1: none. */
    private static void fault(String text, int due) {
        GoodbyeAll x = new GoodbyeAll();
        Due.be("law " + text, Due.law(x, text), due < 0 ? 1 : -100 - due);
        Due.be("the tape behind " + text, x.count(2), 0);
    }

    private static void faults() {
        String[] none = {"1", "t", "0000", "9999", "1|2|3", "1&2&3", "1<2", "1=2", "1>2", "1+2-3+4", "1*2/3%4", "!1",
            "-1", "--1", "1--1", "1-!1", "(1)", "(1<2)<3", "1<2&3>4|5=6", "1;2", "t?n;a?h;m", "((((((1))))))",
            "!!!!!!1", "------t", "!(-(!(1)))", "(1)+((((((2))))))", "!!!!!!1*!!!!!!1", "1?2;3?4", "1-------1"};
        for (String text : none) {
            fault(text, -1);
        }
        fault("", 0);
        fault(" ", 0);
        fault("1 ", 1);
        fault("x", 0);
        fault("T", 0);
        fault(";1", 0);
        fault("1;", 2);
        fault("1;;1", 2);
        fault("?1", 0);
        fault("1?", 2);
        fault("1?;", 2);
        fault("1?2?3", 3);
        fault("12345", 4);
        fault("1+12345", 6);
        fault("1t", 1);
        fault("t1", 1);
        fault("tt", 1);
        fault("1<2<3", 3);
        fault("1<2=3", 3);
        fault("1<", 2);
        fault("1<=2", 2);
        fault("1==2", 2);
        fault("1||2", 2);
        fault("|1", 0);
        fault("+1", 0);
        fault("1+", 2);
        fault("1++1", 2);
        fault("1-*1", 2);
        fault("!", 1);
        fault("1!1", 1);
        fault("!;", 1);
        fault("-", 1);
        fault("(", 1);
        fault(")", 0);
        fault("()", 1);
        fault("(1", 2);
        fault("(1;", 2);
        fault("(1?2)", 2);
        fault("1)", 1);
        fault("(1)1", 3);
        fault("(((((((1)))))))", 6);
        fault("!!!!!!!1", 6);
        fault("-------1", 6);
        fault("(!-(!-(", 6);
        fault("((((((-1", 6);
        fault("((((((1)-1)", 11);
        fault("1--------1", 8);
        fault("1-((((((!", 8);
        fault("1" + (char) 0, 1);
        fault("1" + (char) 255, 1);
        fault("" + (char) 200, 0);
        fault("1\n", 1);
    }

    /** Ten guests in room 0: t 2, n 10, a 10, h 0, m 0 at first. */
    private static int worth(String text) {
        GoodbyeAll x = new GoodbyeAll();
        for (int g = 0; g < 10; g++) {
            x.guest(0, 0);
        }
        Due.be("law " + text, Due.law(x, text), 1);
        x.goodbye();
        return x.led(0);
    }

    private static void worth(String text, int due) {
        Due.be(text, worth(text), due);
    }

    private static void worths() {
        worth("7", 7);
        worth("0007", 7);
        worth("2+3*4", 14);
        worth("(2+3)*4", 20);
        worth("20-5-4", 11);
        worth("20-(5-4)", 19);
        worth("100/10/2", 5);
        worth("29%10%4", 1);
        worth("29%10", 9);
        worth("2*9%5", 3);
        worth("20--3", 23);
        worth("15+-7/2", 12);
        worth("15+-7%4", 12);
        worth("9+1/0", 9);
        worth("9+5%0", 9);
        worth("5+(1<2)", 6);
        worth("5+(2<1)", 5);
        worth("5+(2<2)", 5);
        worth("5+(2>1)", 6);
        worth("5+(2>2)", 5);
        worth("5+(2=2)", 6);
        worth("5+(2=3)", 5);
        worth("5+(7|0)", 6);
        worth("5+(0|0)", 5);
        worth("5+(7&4)", 6);
        worth("5+(7&0)", 5);
        worth("5+!0", 6);
        worth("5+!7", 5);
        worth("5+!!7", 6);
        worth("(1|0&0)+8", 9);
        worth("(1+1<1+2)+8", 9);
        worth("8+-!0", 7);
        worth("8+(1<2&2<3)", 9);
        worth("8+!1+1", 9);
        worth("-2*-3", 6);
        worth("0?9;8", 8);
        worth("3?9;8", 9);
        worth("0?9;0?8;7;6", 7);
        worth("-1?9;8", 9);
        worth("0-1+10", 9);
        worth("9999*9999*9999*9999", 30);
        worth("(9999*9999*30<0)+8", 9);
        // The least int by wrapping, divided by -1: it stays the least one.
        worth("(2048*1024*1024/-1<0)+8", 9);
        worth("2048*1024*1024%-1+8", 8);
    }

    private static void bounds() {
        worth("0", 1);
        worth("-5", 1);
        worth("1", 1);
        worth("30", 30);
        worth("31", 30);
        worth("9999", 30);
        worth("0?9", 1);
        worth("0?9;0?8", 1);
    }

    private static void names() {
        GoodbyeAll x = new GoodbyeAll();
        x.guest(0, 0);
        x.guest(0, 0);
        x.guest(0, 0);
        x.guest(11, 0);
        x.mend(0, 3, 9);
        x.mend(0, 4, 0);
        x.mend(1, 3, 5);
        x.mend(3, 3, 7);
        x.row(0, 0, 1);
        String[] texts = {"t", "n", "a", "h+5", "m"};
        int[] due = {5, 2, 3, 5, 20};
        for (int i = 0; i < texts.length; i++) {
            Due.be("law " + texts[i], Due.law(x, texts[i]), 1);
            Due.be("END by " + texts[i], x.round(0, 20, 0), 20 + due[i]);
        }
        x.mend(2, 5, 1);
        Due.be("law h", Due.law(x, "h*9+n"), 1);
        Due.be("a host who waits for another", x.round(0, 0, 0), 1);
        x.mend(3, 4, 0);
        Due.be("a host who is told", x.round(0, 0, 0), 11);
        x.mend(2, 3, 8);
        Due.be("law t", Due.law(x, "t*2"), 1);
        Due.be("its talk counts, too", x.round(0, 0, 0), 16);
        Due.be("law m", Due.law(x, "m>98?m/10;1"), 1);
        Due.be("minutes go on behind 99", x.round(0, 499, 0), 113);
    }

    private static void keptLaw() {
        GoodbyeAll x = new GoodbyeAll();
        x.guest(0, 0);
        x.row(0, 0, 1);
        Due.be("without a text: t + n", x.round(0, 0, 0), 3);
        x.mend(0, 3, 0);
        Due.be("without a text, t 0", x.round(0, 0, 0), 1);
        Due.be("law", Due.law(x, "17"), 1);
        Due.be("by it", x.round(0, 0, 0), 17);
        Due.be("a fault", Due.law(x, "18+"), -103);
        Due.be("the law stays", x.round(0, 0, 0), 17);
        Due.be("an empty tape", x.law(), -100);
        Due.be("the law stays", x.round(0, 0, 0), 17);
        Due.be("another law", Due.law(x, "4"), 1);
        Due.be("by the other", x.round(0, 0, 0), 4);
    }
}
