/** What a text without a fault is worth: it is cut at the sign that binds most loosely, and its pieces again. */
final class Texts {
    private static final String[] SIGNS = {"|", "&", "<=>", "+-", "*/%"};

    private Texts() {
    }

    static Model.Worth law(String text) {
        String[] lines = text.split(";");
        Model.Worth[] firsts = new Model.Worth[lines.length];
        Model.Worth[] worths = new Model.Worth[lines.length];
        for (int i = 0; i < lines.length; i++) {
            int sign = lines[i].indexOf('?');
            firsts[i] = sign < 0 ? v -> 1 : worth(lines[i].substring(0, sign), 0);
            worths[i] = worth(lines[i].substring(sign + 1), 0);
        }
        return v -> {
            for (int i = 0; i < firsts.length; i++) {
                if (firsts[i].of(v) != 0) {
                    return worths[i].of(v);
                }
            }
            return 0;
        };
    }

    private static Model.Worth worth(String e, int level) {
        if (level == SIGNS.length) {
            return operand(e);
        }
        int place = lastJoining(e, SIGNS[level]);
        if (place < 0) {
            return worth(e, level + 1);
        }
        Model.Worth left = worth(e.substring(0, place), level);
        Model.Worth right = worth(e.substring(place + 1), level + 1);
        char sign = e.charAt(place);
        return v -> LawMaker.worth(left.of(v), sign, right.of(v));
    }

    private static int lastJoining(String e, String signs) {
        int depth = 0;
        for (int i = e.length() - 1; i > 0; i--) {
            char c = e.charAt(i);
            depth += c == ')' ? 1 : c == '(' ? -1 : 0;
            // A sign behind another one, or behind (, is ahead of an operand and joins nothing.
            char ahead = e.charAt(i - 1);
            if (depth == 0 && signs.indexOf(c) >= 0 && (Character.isLetterOrDigit(ahead) || ahead == ')')) {
                return i;
            }
        }
        return -1;
    }

    private static Model.Worth operand(String e) {
        int name = "tnahm".indexOf(e.charAt(0));
        if (name >= 0) {
            return v -> v[name];
        }
        if (Character.isDigit(e.charAt(0))) {
            int number = Integer.parseInt(e);
            return v -> number;
        }
        if (e.charAt(0) == '(') {
            return worth(e.substring(1, e.length() - 1), 0);
        }
        Model.Worth inner = operand(e.substring(1));
        return e.charAt(0) == '!' ? v -> inner.of(v) == 0 ? 1 : 0 : v -> -inner.of(v);
    }
}
