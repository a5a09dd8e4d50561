import java.lang.reflect.Constructor;
import java.lang.reflect.Field;
import java.lang.reflect.Method;
import java.lang.reflect.Modifier;
import java.util.Arrays;
import java.util.TreeSet;

/** The face of the class is the document's, and no more of it can be seen. */
public final class FaceTest {
    private static final String[] FACE = {
        "int guest(int,int)", "int guests(int,int,int)", "int mend(int,int,int)", "int of(int,int)",
        "int at(int,int)", "int in(int,int)", "int feed(int)", "int law()", "int round(int,int,int)",
        "int soonest(int,int)", "int beginBy(int,int)", "int slip(int,int)", "int pair(int,int,int,int)",
        "int coats(int,int)", "int order(int)", "int end(int,int)", "int yawn()", "int clear()",
        "int knows(int,int)", "int drawn(int,int,int)", "int judge(int,int)", "int go(int)", "int goodbye()",
        "int stay(int)", "int leave()", "int led(int)", "int image()", "int back()", "int undo()", "int redo()",
        "int body(int)", "int act(int,int,int)", "int trace(int)", "int keep(int,int)", "int row(int,int,int)",
        "int put(int,int,long)", "long element(int,int)", "int shift(int,int,int,int,int)", "int taken(int,int)",
        "int count(int)"};

    public static void main(String[] args) {
        TreeSet<String> open = new TreeSet<>();
        TreeSet<String> names = new TreeSet<>();
        for (Method m : GoodbyeAll.class.getDeclaredMethods()) {
            if (!Modifier.isPrivate(m.getModifiers()) && !m.isSynthetic()) {
                Due.holds(m + " is public and of the object", m.getModifiers() == Modifier.PUBLIC);
                open.add(told(m));
                names.add(m.getName());
            }
        }
        Due.holds("the methods are the document's: " + open, open.equals(new TreeSet<>(Arrays.asList(FACE))));
        for (Method m : GoodbyeAll.class.getDeclaredMethods()) {
            boolean hidden = Modifier.isPrivate(m.getModifiers());
            Due.holds("private " + m.getName() + " bears no public name", !hidden || !names.contains(m.getName()));
        }
        Constructor<?>[] made = GoodbyeAll.class.getDeclaredConstructors();
        Due.be("constructors", made.length, 1);
        Due.holds("it is public, without arguments",
            made[0].getModifiers() == Modifier.PUBLIC && made[0].getParameterCount() == 0);
        TreeSet<String> constants = new TreeSet<>();
        for (Field f : GoodbyeAll.class.getDeclaredFields()) {
            if (!Modifier.isPrivate(f.getModifiers())) {
                Due.holds(f + " is a constant", f.getType() == int.class && Modifier.isPublic(f.getModifiers())
                    && Modifier.isStatic(f.getModifiers()) && Modifier.isFinal(f.getModifiers()));
                constants.add(f.getName());
            }
        }
        Due.holds("the constants " + constants, constants.toString().equals("[BAD, FULL, NOT, STATE, VOID]"));
        Due.holds("the class is public and final",
            GoodbyeAll.class.getModifiers() == (Modifier.PUBLIC | Modifier.FINAL));
        for (Class<?> inner : GoodbyeAll.class.getDeclaredClasses()) {
            int how = inner.getModifiers();
            Due.holds(inner + " is static and not public",
                Modifier.isStatic(how) && !Modifier.isPublic(how) && !Modifier.isProtected(how));
        }
        Due.be("BAD", GoodbyeAll.BAD, -1);
        Due.be("NOT", GoodbyeAll.NOT, -2);
        Due.be("FULL", GoodbyeAll.FULL, -3);
        Due.be("STATE", GoodbyeAll.STATE, -5);
        Due.be("VOID", GoodbyeAll.VOID, -2000000000);
        Due.close();
    }

    private static String told(Method m) {
        StringBuilder text = new StringBuilder(m.getReturnType() + " " + m.getName() + "(");
        for (Class<?> type : m.getParameterTypes()) {
            text.append(text.charAt(text.length() - 1) == '(' ? "" : ",").append(type);
        }
        return text.append(")").toString();
    }
}
