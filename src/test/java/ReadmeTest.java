import java.lang.reflect.Method;
import java.lang.reflect.Modifier;
import java.nio.file.Files;
import java.nio.file.Path;
import java.util.Map;
import java.util.Set;
import java.util.TreeMap;
import java.util.TreeSet;
import java.util.regex.Matcher;
import java.util.regex.Pattern;

/** README.md holds: its examples by the class, its calls by the face, its refusals by DOC.md, its tests by the files. */
public final class ReadmeTest {
    public static void main(String[] args) throws Exception {
        String readme = Files.readString(Path.of("README.md"));
        String document = Files.readString(Path.of("../shared/DOC.md"));
        examples(readme);
        Map<String, String[]> rows = calls(readme);
        face(rows);
        refusals(rows, document);
        tests(readme);
        Due.holds("for how many calls an object is good", readme.contains("good for 512 calls")
            && document.contains("at most 512 calls"));
        Due.close();
    }

    private static Matcher all(String pattern, String text) {
        return Pattern.compile(pattern, Pattern.MULTILINE | Pattern.DOTALL).matcher(text);
    }

    private static void examples(String readme) throws Exception {
        Matcher blocks = all("^```java\\n(.*?)^```$", readme);
        int many = 0;
        while (blocks.find()) {
            many++;
            example(blocks.group(1).split("\n"));
        }
        Due.holds("there are examples: " + many, many >= 4);
    }

    private static void example(String[] lines) throws Exception {
        Due.holds("an example begins with a new object: " + lines[0], lines[0].equals("GoodbyeAll x = new GoodbyeAll();"));
        GoodbyeAll x = new GoodbyeAll();
        for (int i = 1; i < lines.length; i++) {
            Matcher call = all("^x\\.(\\w+)\\((.*?)\\); +// (-?\\d+)(: .*)?$", lines[i]);
            if (!call.find()) {
                Due.holds("a call and its answer: " + lines[i], false);
                continue;
            }
            Due.be(lines[i], answer(x, call.group(1), call.group(2)), Long.parseLong(call.group(3)));
        }
    }

    private static long answer(GoodbyeAll x, String name, String told) throws Exception {
        Method method = methods().get(name);
        String[] words = told.isEmpty() ? new String[0] : told.split(", ");
        Object[] arguments = new Object[words.length];
        for (int i = 0; i < words.length; i++) {
            long v = words[i].charAt(0) == '\'' ? words[i].charAt(1) : Long.parseLong(words[i]);
            arguments[i] = method.getParameterTypes()[i] == long.class ? (Object) v : (Object) (int) v;
        }
        return ((Number) method.invoke(x, arguments)).longValue();
    }

    private static Map<String, Method> methods() {
        Map<String, Method> methods = new TreeMap<>();
        for (Method method : GoodbyeAll.class.getDeclaredMethods()) {
            if (Modifier.isPublic(method.getModifiers())) {
                methods.put(method.getName(), method);
            }
        }
        return methods;
    }

    /** By the call's name its parameters and its refusals, as the table of calls tells them. */
    private static Map<String, String[]> calls(String readme) {
        Map<String, String[]> rows = new TreeMap<>();
        Matcher row = Pattern.compile("^\\| `(\\w+)\\(([^)]*)\\)` \\| ([^|]+) \\|([^|]*)\\|$", Pattern.MULTILINE)
            .matcher(readme);
        while (row.find()) {
            Due.holds(row.group(1) + " stands there once",
                rows.put(row.group(1), new String[] {row.group(2), row.group(4)}) == null);
        }
        return rows;
    }

    private static void face(Map<String, String[]> rows) throws Exception {
        Due.holds("the calls are the face's: " + rows.keySet(), rows.keySet().equals(methods().keySet()));
        for (Map.Entry<String, String[]> row : rows.entrySet()) {
            String told = row.getValue()[0];
            int many = told.isEmpty() ? 0 : told.split(", ").length;
            Due.be("parameters of " + row.getKey(), many, methods().get(row.getKey()).getParameterCount());
        }
    }

    private static Set<String> named(String text) {
        Set<String> named = new TreeSet<>();
        Matcher one = all("\\b(BAD|NOT|FULL|STATE)\\b|-1[1-4]\\b", text.replace("-11 to -13", "-11, -12, -13"));
        while (one.find()) {
            named.add(one.group());
        }
        return named;
    }

    private static void refusals(Map<String, String[]> rows, String document) {
        Matcher promise = all("^## Promise \\d+: (\\w+)\\n\\n`\\w+ (\\w+)\\(([^)]*)\\)`: ([^\\n]*)$", document);
        int many = 0;
        while (promise.find()) {
            String name = promise.group(1);
            String[] row = rows.get(name);
            many++;
            Due.holds(name + " stands in README.md", row != null);
            if (row != null) {
                String parameters = promise.group(3).replaceAll("(int|long) ", "");
                Due.holds(name + " is told with " + parameters, row[0].equals(parameters));
                Due.holds(name + " refuses by " + named(promise.group(4)), named(row[1]).equals(named(promise.group(4))));
            }
        }
        Due.be("promises of calls", many, methods().size());
    }

    private static void tests(String readme) throws Exception {
        Set<String> told = new TreeSet<>();
        Matcher name = Pattern.compile("`(\\w+Test)`").matcher(readme);
        while (name.find()) {
            told.add(name.group(1));
        }
        Set<String> there = new TreeSet<>();
        try (java.util.stream.Stream<Path> files = Files.list(Path.of("src/test/java"))) {
            files.map(file -> file.getFileName().toString()).filter(file -> file.endsWith("Test.java"))
                .forEach(file -> there.add(file.replace(".java", "")));
        }
        Due.holds("the tests told are those that are there: " + told, told.equals(there));
        Due.holds("how they are run", readme.contains("bash .ci/run") && Files.isExecutable(Path.of(".ci/run")));
    }
}
