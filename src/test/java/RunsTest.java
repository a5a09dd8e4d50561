import java.lang.reflect.Method;
import java.lang.reflect.Modifier;
import java.util.ArrayList;
import java.util.Arrays;
import java.util.HashMap;
import java.util.List;
import java.util.Map;
import java.util.Random;

/** Whole lives of 512 calls of any kind, right and wrong ones, each held against what the Twin answers. */
public final class RunsTest {
    private static final int LIVES = 400, CALLS = 512;
    private static final int[] FAR = {Integer.MIN_VALUE, -100, -12, -2, 5, 6, 10, 31, 60, 61, 100, 120, 256, 500, 1000,
        50001, Integer.MAX_VALUE - 1, Integer.MAX_VALUE};
    /** How often, the call, and of what kind its arguments are: a number is the greatest one that is right. */
    private static final String[] CALLS_TOLD = {
        "8 guest rr 99", "3 guests s 6 10", "20 mend number what v", "4 of number what", "3 at 9 999", "3 in 4 999",
        "6 feed letter", "3 law", "8 round s rm 2", "1 soonest rm k6", "4 slip rm 1", "8 pair ss rr 99 1", "4 coats s 9",
        "4 order ss", "4 end 9 1", "2 yawn", "1 clear", "4 knows 9 k99", "3 drawn seed rmn 1", "6 judge s rm",
        "10 go 4", "8 goodbye", "4 stay 99", "6 leave", "8 led 5", "3 image", "3 back", "8 undo", "6 redo", "4 body 7",
        "8 act 9 3 seed", "6 trace 10", "4 keep s k9", "5 row s sort size", "30 put s 15 element", "8 element s 15",
        "6 shift s 9 s 9 9", "6 taken s 7", "6 count 5"};
    /** Calls of which a life may be fond: what is full, or kept up to a number, is reached by many of them alone. */
    private static final String[] FOND = {"mend number what v", "body 7", "feed letter", "feed letter", "guest rr 99",
        "undo", "redo", "put s 15 element", "stay 99", "goodbye", "knows 9 k0", "judge s rm", "pair ss rr 99 1"};

    private final Random random;
    private final boolean wild;
    private final Map<String, Method> face;
    private final List<String> calls = new ArrayList<>();
    private final GoodbyeAll x = new GoodbyeAll();
    private final Twin twin = new Twin();
    private final List<String> said = new ArrayList<>();

    private RunsTest(int seed, Map<String, Method> face) {
        random = new Random(seed);
        wild = seed % 3 == 0;
        this.face = face;
        for (String call : CALLS_TOLD) {
            String[] words = call.split(" ", 2);
            calls.addAll(java.util.Collections.nCopies(Integer.parseInt(words[0]), words[1]));
        }
        for (int i = upTo(3); i > 0; i--) {
            calls.addAll(java.util.Collections.nCopies(100 + upTo(200), FOND[random.nextInt(FOND.length)]));
        }
    }

    public static void main(String[] args) throws Exception {
        Map<String, Method> face = new HashMap<>();
        for (Method method : GoodbyeAll.class.getDeclaredMethods()) {
            if (Modifier.isPublic(method.getModifiers())) {
                face.put(method.getName(), method);
            }
        }
        for (int seed = 0; seed < LIVES && Due.wrong() == 0; seed++) {
            Due.about("life " + seed);
            RunsTest life = new RunsTest(seed, face);
            life.live(seed);
            if (Due.wrong() > 0) {
                System.out.println("life " + seed + ": " + life.said);
            }
        }
        Due.close();
    }

    private void live(int seed) throws Exception {
        for (int i = 0; i < 4 && seed % 5 > 0; i++) {
            ask("guest rr 99");
            ask("row s 0 15");
        }
        if (seed % 2 == 0) {
            feed(new LawMaker(seed).law().text);
        }
        // One call brings at most four more to look at what it did.
        while (said.size() < CALLS - 5 && Due.wrong() == 0) {
            ask(calls.get(random.nextInt(calls.size())));
            // The dearest call of the twin, and the one whose texts are seldom right by chance.
            if (random.nextInt(2000) == 0) {
                ask("beginBy 4 200");
            } else if (random.nextInt(120) == 0) {
                feed(new LawMaker(random.nextInt()).law().text);
            }
        }
    }

    private void feed(String text) throws Exception {
        if (said.size() + text.length() + 2 <= CALLS) {
            both(face.get("law"));
            for (int i = 0; i < text.length(); i++) {
                both(face.get("feed"), (int) text.charAt(i));
            }
            both(face.get("law"));
        }
    }

    private void ask(String told) throws Exception {
        String[] words = told.split(" ");
        Method method = face.get(words[0]);
        Object[] arguments = new Object[words.length - 1];
        for (int i = 0; i < arguments.length; i++) {
            long v = random.nextInt(wild ? 8 : 40) == 0 ? wrong(words[i + 1]) : argument(words[i + 1]);
            arguments[i] = method.getParameterTypes()[i] == long.class ? (Object) v : (Object) (int) v;
        }
        both(method, arguments);
        lookAt(words[0], arguments);
    }

    /** What came into a row is seldom read by chance. */
    private void lookAt(String call, Object[] arguments) throws Exception {
        if (call.equals("put") && upTo(1) == 0) {
            both(face.get("element"), arguments[0], arguments[1]);
        } else if (call.equals("shift")) {
            for (int i = 0; i < 4; i++) {
                both(face.get("element"), arguments[2], (Integer) arguments[3] + i);
            }
        }
    }

    private void both(Method method, Object... arguments) throws Exception {
        Method twins = Twin.class.getDeclaredMethod(method.getName(), method.getParameterTypes());
        String call = method.getName() + Arrays.toString(arguments);
        said.add(call);
        long due = ((Number) twins.invoke(twin, arguments)).longValue();
        Due.be("call " + said.size() + ", " + call, ((Number) method.invoke(x, arguments)).longValue(), due);
    }

    private int upTo(int n) {
        return random.nextInt(n + 1);
    }

    /** Mostly just beside what is right. */
    private long wrong(String kind) {
        int how = upTo(2);
        if (how == 0) {
            return FAR[random.nextInt(FAR.length)];
        }
        boolean greatestIsTold = Character.isDigit(kind.charAt(kind.length() - 1));
        if (how == 1 || !greatestIsTold) {
            return -1 - upTo(1);
        }
        return Integer.parseInt(kind.charAt(0) == 'k' ? kind.substring(1) : kind) + 1;
    }

    private long argument(String kind) {
        switch (kind) {
            case "s": return upTo(5);
            case "ss": return 10 * upTo(5) + upTo(5);
            case "rr": return 10 * upTo(4) + upTo(4);
            case "rm": return 100 * upTo(4) + (upTo(3) == 0 ? upTo(9) : upTo(99));
            case "rmn": return 100 * upTo(499) + 1 + upTo(29);
            case "number": return upTo(upTo(1) == 0 ? 3 : 9);
            case "what": return upTo(7);
            case "v": return upTo(3) == 0 ? upTo(99) : upTo(upTo(1) == 0 ? 1 : 9);
            case "letter": return upTo(40) == 0 ? upTo(255) : "tnahm0123456789()!-+*/%<>=&|;?".charAt(upTo(29));
            case "seed": return upTo(9) == 0 ? Integer.MIN_VALUE + upTo(2) - 1 : random.nextInt();
            case "sort": return upTo(1) == 0 ? 0 : upTo(4);
            case "size": return upTo(2) == 0 ? upTo(60) : upTo(16) - 1;
            case "element": return upTo(3) == 0 ? random.nextLong() >> upTo(63) : upTo(upTo(2) == 0 ? 127 : 4);
            default: return kind.charAt(0) == 'k' ? upTo(Integer.parseInt(kind.substring(1)) + 1) - 1
                : upTo(Integer.parseInt(kind));
        }
    }
}
