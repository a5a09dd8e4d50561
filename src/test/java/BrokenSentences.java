import java.io.ByteArrayOutputStream;
import java.io.InputStream;
import java.io.OutputStream;
import java.io.PrintStream;
import java.lang.reflect.InvocationTargetException;
import java.lang.reflect.Method;
import java.net.URI;
import java.nio.file.Files;
import java.nio.file.Path;
import java.util.ArrayList;
import java.util.HashMap;
import java.util.HashSet;
import java.util.List;
import java.util.Map;
import java.util.Set;
import java.util.regex.Matcher;
import java.util.regex.Pattern;
import java.util.stream.Collectors;
import javax.tools.FileObject;
import javax.tools.ForwardingJavaFileManager;
import javax.tools.JavaCompiler;
import javax.tools.JavaFileManager;
import javax.tools.JavaFileObject;
import javax.tools.SimpleJavaFileObject;
import javax.tools.StandardJavaFileManager;
import javax.tools.ToolProvider;

/**
 * Breaks the class sentence by sentence, as Breaks tells, and looks whether that sentence's own test fails.
 * Run by .ci/broken, not by .ci/run: each of some hundred broken classes is compiled.
 */
public final class BrokenSentences {
    private static final Path SOURCE = Path.of("src/main/java/GoodbyeAll.java");

    public static void main(String[] args) throws Exception {
        String source = Files.readString(SOURCE);
        Set<String> asked = Set.of(args);
        PrintStream out = System.out;
        // The tests tell what goes wrong; here something should, and it is not of interest what.
        System.setOut(new PrintStream(OutputStream.nullOutputStream()));
        List<String> faults = new ArrayList<>();
        Set<String> broken = new HashSet<>();
        List<Breaks.Break> breaks = new ArrayList<>();
        for (Breaks.Break one : Breaks.all()) {
            broken.add(one.id);
            if (asked.isEmpty() || asked.contains(one.id)) {
                breaks.add(one);
            }
        }
        for (Boundaries.Sentence sentence : Boundaries.all()) {
            if (!broken.remove(sentence.id)) {
                faults.add(sentence.id + ": no way to break it is told");
            }
        }
        broken.forEach(id -> faults.add(id + ": there is no such sentence"));
        faults.addAll(breaks.parallelStream().map(one -> fault(source, one)).filter(told -> !told.isEmpty())
            .collect(Collectors.toList()));
        faults.forEach(out::println);
        out.println(breaks.size() + " broken classes, " + faults.size() + " faults");
        System.exit(faults.isEmpty() ? 0 : 1);
    }

    /** What is wrong with that break: empty if the sentence's own test fails by it. */
    private static String fault(String source, Breaks.Break one) {
        String told = one.id + ": '" + one.from + "' -> '" + one.to + "'";
        Matcher places = Pattern.compile(loosely(one.from)).matcher(source);
        if (!places.find()) {
            return told + " stands nowhere in the source";
        }
        String changed = source.substring(0, places.start()) + one.to + source.substring(places.end());
        if (places.find()) {
            return told + " stands there more than once";
        }
        Map<String, byte[]> classes = compiled(changed);
        if (classes.isEmpty()) {
            return told + " can't be compiled";
        }
        return caught(classes, one.id) ? "" : told + " is caught by no test of its own";
    }

    private static String loosely(String piece) {
        StringBuilder pattern = new StringBuilder();
        for (String word : piece.split(" ")) {
            pattern.append(pattern.length() == 0 ? "" : "\\s+").append(Pattern.quote(word));
        }
        return pattern.toString();
    }

    private static boolean caught(Map<String, byte[]> classes, String id) {
        try {
            Class<?> tests = new BrokenLoader(classes).loadClass("Boundaries");
            Method wrongOf = tests.getDeclaredMethod("wrongOf", String.class);
            wrongOf.setAccessible(true);
            return (Integer) wrongOf.invoke(null, id) > 0;
        } catch (InvocationTargetException e) {
            // A broken class that throws fails its test, too.
            return true;
        } catch (ReflectiveOperationException e) {
            throw new IllegalStateException(e);
        }
    }

    /** The broken class, and the tests anew beside it. */
    private static final class BrokenLoader extends ClassLoader {
        private final Map<String, byte[]> broken;

        BrokenLoader(Map<String, byte[]> broken) {
            super(ClassLoader.getPlatformClassLoader());
            this.broken = broken;
        }

        @Override
        protected Class<?> findClass(String name) throws ClassNotFoundException {
            byte[] bytes = broken.get(name);
            if (bytes == null) {
                try (InputStream in = BrokenSentences.class.getResourceAsStream("/" + name + ".class")) {
                    if (in == null) {
                        throw new ClassNotFoundException(name);
                    }
                    bytes = in.readAllBytes();
                } catch (java.io.IOException e) {
                    throw new ClassNotFoundException(name, e);
                }
            }
            return defineClass(name, bytes, 0, bytes.length);
        }
    }

    private static Map<String, byte[]> compiled(String source) {
        JavaCompiler compiler = ToolProvider.getSystemJavaCompiler();
        StandardJavaFileManager files = compiler.getStandardFileManager(d -> { }, null, null);
        Map<String, ByteArrayOutputStream> made = new HashMap<>();
        JavaFileManager kept = new ForwardingJavaFileManager<>(files) {
            @Override
            public JavaFileObject getJavaFileForOutput(Location location, String name, JavaFileObject.Kind kind,
                FileObject sibling) {
                return new SimpleJavaFileObject(URI.create("kept:///" + name.replace('$', '_')), kind) {
                    @Override
                    public OutputStream openOutputStream() {
                        return made.computeIfAbsent(name, k -> new ByteArrayOutputStream());
                    }
                };
            }
        };
        JavaFileObject text = new SimpleJavaFileObject(URI.create("text:///GoodbyeAll.java"), JavaFileObject.Kind.SOURCE) {
            @Override
            public CharSequence getCharContent(boolean ignoreEncodingErrors) {
                return source;
            }
        };
        boolean right = compiler.getTask(null, kept, d -> { }, List.of("-proc:none", "-nowarn"), null, List.of(text)).call();
        Map<String, byte[]> classes = new HashMap<>();
        if (right) {
            made.forEach((name, bytes) -> classes.put(name, bytes.toByteArray()));
        }
        return classes;
    }
}
