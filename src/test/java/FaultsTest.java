import java.util.ArrayDeque;
import java.util.Deque;
import java.util.Random;

/** Where a text is at fault, held against an automaton that reads it byte by byte and knows what may come next. */
public final class FaultsTest {
    private static final String LETTERS = "tnahm0123456789()!-+*/%<>=&|;?(!-1tn x";
    private static final Random RANDOM = new Random(20261119);

    public static void main(String[] args) {
        LawMaker laws = new LawMaker(11);
        for (int i = 0; i < 4000; i++) {
            String right = laws.law().text;
            hold(right);
            hold(right.substring(0, RANDOM.nextInt(right.length() + 1)));
            for (int k = 0; k < 4; k++) {
                hold(changed(right));
            }
            hold(random(1 + RANDOM.nextInt(12)));
            hold(opens(RANDOM.nextInt(9)));
        }
        Due.close();
    }

    private static void hold(String text) {
        if (text.length() <= 120) {
            int fault = new Reader().fault(text);
            Due.be("law " + text, Due.law(new GoodbyeAll(), text), fault < 0 ? 1 : -100 - fault);
        }
    }

    private static char letter() {
        return RANDOM.nextInt(50) == 0 ? (char) RANDOM.nextInt(256) : LETTERS.charAt(RANDOM.nextInt(LETTERS.length()));
    }

    private static String changed(String text) {
        int place = RANDOM.nextInt(text.length());
        int behind = place + RANDOM.nextInt(2);
        return text.substring(0, place) + (RANDOM.nextInt(3) == 0 ? "" : letter()) + text.substring(behind);
    }

    private static String random(int length) {
        StringBuilder text = new StringBuilder();
        for (int i = 0; i < length; i++) {
            text.append(letter());
        }
        return text.toString();
    }

    /** So many signs ahead of an operand, and what may have closed some of them. */
    private static String opens(int many) {
        StringBuilder text = new StringBuilder();
        for (int i = 0; i < many; i++) {
            text.append("(!-".charAt(RANDOM.nextInt(3)));
            if (RANDOM.nextInt(4) == 0) {
                text.append("1)-".charAt(RANDOM.nextInt(3)));
            }
        }
        return text.append("1)))))))").toString();
    }

    /** Reads on as long as a text may go on; -1: all of it, and it may end there. */
    static final class Reader {
        /** The signs that are open: ( and, ahead of an operand that has not ended, ! and -. */
        private final Deque<Character> open = new ArrayDeque<>();
        /** Whether the comparing of the innermost ( has had its sign; one for the line itself. */
        private final Deque<Boolean> compared = new ArrayDeque<>();
        private boolean operandDue = true;
        private boolean conditionRead = false;
        private int digits = 0;

        int fault(String text) {
            compared.push(false);
            for (int i = 0; i < text.length(); i++) {
                if (!reads(text.charAt(i))) {
                    return i;
                }
            }
            return operandDue || open.contains('(') ? text.length() : -1;
        }

        private boolean reads(char sign) {
            if (operandDue) {
                return operand(sign);
            }
            if (digits > 0 && sign >= '0' && sign <= '9') {
                digits++;
                return digits <= 4;
            }
            digits = 0;
            return behindOperand(sign);
        }

        private boolean operand(char sign) {
            if (sign >= '0' && sign <= '9') {
                digits = 1;
                ended();
                return true;
            }
            if (sign != 0 && "tnahm".indexOf(sign) >= 0) {
                ended();
                return true;
            }
            if (sign != '(' && sign != '!' && sign != '-' || open.size() == 6) {
                return false;
            }
            open.push(sign);
            if (sign == '(') {
                compared.push(false);
            }
            return true;
        }

        /** An operand has ended, and with it each ! and - right ahead of it. */
        private void ended() {
            operandDue = false;
            while (!open.isEmpty() && open.peek() != '(') {
                open.pop();
            }
        }

        private boolean behindOperand(char sign) {
            operandDue = true;
            boolean inside = open.contains('(');
            switch (sign) {
                case '+': case '-': case '*': case '/': case '%':
                    return true;
                case '&': case '|':
                    compared.pop();
                    compared.push(false);
                    return true;
                case '<': case '=': case '>':
                    return !compared.pop() && compared.offerFirst(true);
                case ')':
                    if (!inside) {
                        return false;
                    }
                    open.pop();
                    compared.pop();
                    ended();
                    return true;
                case '?': case ';':
                    boolean may = !inside && (sign == ';' || !conditionRead);
                    conditionRead = sign == '?';
                    compared.pop();
                    compared.push(false);
                    return may;
                default:
                    return false;
            }
        }
    }
}
