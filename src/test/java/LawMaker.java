/** Makes laws by the document's grammar, each as a text and, beside it, as what it is worth. */
final class LawMaker {
    private final java.util.Random random;

    LawMaker(long seed) {
        random = new java.util.Random(seed);
    }

    /** A text of at most 120 bytes and its worth. */
    static final class Made {
        final String text;
        final Model.Worth worth;

        Made(String text, Model.Worth worth) {
            this.text = text;
            this.worth = worth;
        }
    }

    Made law() {
        while (true) {
            Made made = lines();
            if (made.text.length() <= 120) {
                return made;
            }
        }
    }

    private Made lines() {
        Made line = line();
        if (random.nextInt(3) > 0) {
            return line;
        }
        Made rest = lines();
        return new Made(line.text + ";" + rest.text, v -> {
            int worth = line.worth.of(v);
            return worth == Integer.MIN_VALUE ? rest.worth.of(v) : worth;
        });
    }

    /** A line that does not count is worth the least number, which a made one is never worth otherwise. */
    private Made line() {
        Made worth = level(0, 0);
        if (random.nextBoolean()) {
            return new Made(worth.text, v -> other(worth.worth.of(v)));
        }
        Made first = level(0, 0);
        return new Made(first.text + "?" + worth.text,
            v -> first.worth.of(v) == 0 ? Integer.MIN_VALUE : other(worth.worth.of(v)));
    }

    private static int other(int worth) {
        return worth == Integer.MIN_VALUE ? worth + 1 : worth;
    }

    private static final String[] SIGNS = {"|", "&", "<=>", "+-", "*/%"};

    private Made level(int level, int open) {
        if (level == 5) {
            return operand(open);
        }
        Made left = level(level + 1, open);
        int more = random.nextInt(4) == 0 ? 1 + random.nextInt(level == 2 ? 1 : 2) : 0;
        for (int i = 0; i < more; i++) {
            char sign = SIGNS[level].charAt(random.nextInt(SIGNS[level].length()));
            left = joined(left, sign, level(level + 1, open));
        }
        return left;
    }

    private static Made joined(Made left, char sign, Made right) {
        return new Made(left.text + sign + right.text, v -> worth(left.worth.of(v), sign, right.worth.of(v)));
    }

    static int worth(int a, char sign, int b) {
        switch (sign) {
            case '|': return a != 0 | b != 0 ? 1 : 0;
            case '&': return a != 0 & b != 0 ? 1 : 0;
            case '<': return a < b ? 1 : 0;
            case '=': return a == b ? 1 : 0;
            case '>': return a > b ? 1 : 0;
            case '+': return a + b;
            case '-': return a - b;
            case '*': return a * b;
            case '/': return b == 0 ? 0 : a / b;
            default: return b == 0 ? 0 : a % b;
        }
    }

    private Made operand(int open) {
        int kind = random.nextInt(open < 6 ? 7 : 4);
        if (kind < 2) {
            int name = random.nextInt(5);
            return new Made("" + "tnahm".charAt(name), v -> v[name]);
        }
        if (kind < 4) {
            int number = random.nextInt(random.nextInt(5) == 0 ? 10000 : 12);
            return new Made("" + number, v -> number);
        }
        if (kind == 4) {
            Made inner = level(0, open + 1);
            return new Made("(" + inner.text + ")", inner.worth);
        }
        Made inner = operand(open + 1);
        if (kind == 5) {
            return new Made("!" + inner.text, v -> inner.worth.of(v) == 0 ? 1 : 0);
        }
        return new Made("-" + inner.text, v -> -inner.worth.of(v));
    }
}
