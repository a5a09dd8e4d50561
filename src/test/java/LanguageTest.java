import com.sun.source.tree.*;
import com.sun.source.util.*;
import java.nio.file.Files;
import java.nio.file.Path;
import java.util.ArrayDeque;
import java.util.Deque;
import java.util.HashMap;
import java.util.HashSet;
import java.util.LinkedHashMap;
import java.util.LinkedHashSet;
import java.util.List;
import java.util.Map;
import java.util.Set;
import javax.lang.model.element.Element;
import javax.lang.model.element.ElementKind;
import javax.lang.model.element.Modifier;
import javax.tools.JavaCompiler;
import javax.tools.StandardJavaFileManager;
import javax.tools.ToolProvider;

/** The rules of LANGUAGE.md that can be read off the source: its tree, its sizes and who calls whom. */
public final class LanguageTest {
    private static final Path SOURCE = Path.of("src/main/java/GoodbyeAll.java");
    private static final Set<String> LIBRARY = Set.of("String", "StringBuilder", "Integer", "Long", "Math", "System",
        "Object", "ArrayList", "List", "Arrays");
    private static final Set<String> FUNCTIONS = Set.of("Math.min", "Math.max", "Math.abs", "Integer.bitCount",
        "Long.bitCount", "System.arraycopy");

    public static void main(String[] args) throws Exception {
        JavaCompiler compiler = ToolProvider.getSystemJavaCompiler();
        StandardJavaFileManager files = compiler.getStandardFileManager(null, null, null);
        JavacTask task = (JavacTask) compiler.getTask(null, files, null, List.of("-proc:none"), null,
            files.getJavaFileObjects(SOURCE));
        CompilationUnitTree unit = task.parse().iterator().next();
        task.analyze();
        String text = Files.readString(SOURCE);
        Due.holds("the source is of signs 1 to 127", text.chars().allMatch(c -> c > 0 && c < 128));
        Due.be("imports", unit.getImports().size(), 0);
        Due.holds("no package line", unit.getPackageName() == null);
        Due.be("outer classes", unit.getTypeDecls().size(), 1);
        Walk walk = new Walk(Trees.instance(task), unit);
        walk.scan(unit, null);
        Due.holds("classes: " + walk.classes, walk.classes <= 12);
        walk.inner.remove("<init>");
        walk.inner.retainAll(walk.open);
        Due.holds("no method inside bears a public one's name: " + walk.inner, walk.inner.isEmpty());
        walk.recursion();
        walk.depth();
        Due.close();
    }

    private static final class Walk extends TreePathScanner<Void, Void> {
        final Trees trees;
        final CompilationUnitTree unit;
        final Map<String, Set<String>> calls = new LinkedHashMap<>();
        final Set<String> hidden = new HashSet<>();
        final Set<String> open = new HashSet<>();
        final Set<String> inner = new HashSet<>();
        final Deque<String> method = new ArrayDeque<>();
        int classes = 0;

        Walk(Trees trees, CompilationUnitTree unit) {
            this.trees = trees;
            this.unit = unit;
        }

        private long line(Tree tree, boolean end) {
            SourcePositions at = trees.getSourcePositions();
            long place = end ? at.getEndPosition(unit, tree) : at.getStartPosition(unit, tree);
            return unit.getLineMap().getLineNumber(place);
        }

        private void never(String what, Tree tree) {
            Due.holds("line " + line(tree, false) + ": " + what, false);
        }

        @Override
        public Void visitClass(ClassTree tree, Void p) {
            classes++;
            Element e = trees.getElement(getCurrentPath());
            boolean inner = e.getEnclosingElement().getKind().isClass();
            Due.holds(tree.getSimpleName() + " is final, and static if it stands inside",
                e.getModifiers().contains(Modifier.FINAL) && (!inner || e.getModifiers().contains(Modifier.STATIC)));
            int fields = 0;
            for (Tree member : tree.getMembers()) {
                fields += member instanceof VariableTree && !isStatic((VariableTree) member) ? 1 : 0;
            }
            Due.holds("fields of " + tree.getSimpleName() + ": " + fields, fields <= 20);
            return super.visitClass(tree, p);
        }

        private static boolean isStatic(VariableTree v) {
            return v.getModifiers().getFlags().contains(Modifier.STATIC);
        }

        @Override
        public Void visitVariable(VariableTree tree, Void p) {
            if (isStatic(tree)) {
                String type = tree.getType().toString();
                Due.holds(tree.getName() + " is final and of a plain type",
                    tree.getModifiers().getFlags().contains(Modifier.FINAL)
                        && Set.of("int", "long", "boolean", "char", "String", "int[]", "long[]").contains(type));
            }
            return super.visitVariable(tree, p);
        }

        @Override
        public Void visitMethod(MethodTree tree, Void p) {
            Element e = trees.getElement(getCurrentPath());
            String name = e.getEnclosingElement().getSimpleName() + "." + tree.getName();
            long lines = line(tree, true) - line(tree, false) + 1;
            Due.holds(name + " has " + lines + " lines", lines <= 60 || name.equals("GoodbyeAll.<init>"));
            Due.holds(name + " has at most seven parameters", tree.getParameters().size() <= 7);
            Due.holds(name + " throws nothing", tree.getThrows().isEmpty());
            Due.holds(name + " is none of an object's own",
                !Set.of("equals", "hashCode", "toString").contains(tree.getName().toString()));
            calls.computeIfAbsent(name, k -> new LinkedHashSet<>());
            if (e.getModifiers().contains(Modifier.PUBLIC)) {
                open.add(tree.getName().toString());
            } else {
                inner.add(tree.getName().toString());
            }
            if (e.getModifiers().contains(Modifier.PRIVATE)) {
                hidden.add(name);
            }
            method.push(name);
            super.visitMethod(tree, p);
            method.pop();
            return null;
        }

        @Override
        public Void visitMethodInvocation(MethodInvocationTree tree, Void p) {
            Element e = trees.getElement(getCurrentPath());
            String owner = e.getEnclosingElement().getSimpleName().toString();
            String name = owner + "." + e.getSimpleName();
            if (!LIBRARY.contains(owner)) {
                calls.get(method.peek()).add(name);
            } else if (!name.equals("Object.<init>")) {
                Due.holds("line " + line(tree, false) + ": " + name + " may be called", FUNCTIONS.contains(name));
            }
            return super.visitMethodInvocation(tree, p);
        }

        @Override
        public Void visitNewClass(NewClassTree tree, Void p) {
            Due.holds("line " + line(tree, false) + ": no class body", tree.getClassBody() == null);
            Due.holds("line " + line(tree, false) + ": made in a constructor", method.peek().endsWith(".<init>"));
            return super.visitNewClass(tree, p);
        }

        @Override
        public Void visitNewArray(NewArrayTree tree, Void p) {
            Due.holds("line " + line(tree, false) + ": made in a constructor or as a field",
                method.isEmpty() || method.peek().endsWith(".<init>"));
            return super.visitNewArray(tree, p);
        }

        @Override
        public Void visitIdentifier(IdentifierTree tree, Void p) {
            if (tree.getName().contentEquals("this")) {
                Tree parent = getCurrentPath().getParentPath().getLeaf();
                Due.holds("line " + line(tree, false) + ": this is handed to nobody", parent instanceof MemberSelectTree);
            }
            Element e = trees.getElement(getCurrentPath());
            if (e != null && e.getKind() == ElementKind.FIELD && e.getModifiers().contains(Modifier.STATIC)) {
                Tree parent = getCurrentPath().getParentPath().getLeaf();
                Tree above = getCurrentPath().getParentPath().getParentPath().getLeaf();
                Due.holds("line " + line(tree, false) + ": " + e + " is never changed",
                    !isChanged(tree, parent) && !(parent instanceof ArrayAccessTree && isChanged(parent, above)));
            }
            return super.visitIdentifier(tree, p);
        }

        private static boolean isChanged(Tree tree, Tree parent) {
            return parent instanceof AssignmentTree && ((AssignmentTree) parent).getVariable() == tree
                || parent instanceof CompoundAssignmentTree && ((CompoundAssignmentTree) parent).getVariable() == tree
                || parent instanceof UnaryTree && parent.getKind().toString().contains("CREMENT");
        }

        @Override
        public Void visitTry(TryTree tree, Void p) {
            never("try", tree);
            return null;
        }

        @Override
        public Void visitThrow(ThrowTree tree, Void p) {
            never("throw", tree);
            return null;
        }

        @Override
        public Void visitLambdaExpression(LambdaExpressionTree tree, Void p) {
            never("lambda", tree);
            return null;
        }

        @Override
        public Void visitMemberReference(MemberReferenceTree tree, Void p) {
            never("method reference", tree);
            return null;
        }

        @Override
        public Void visitSynchronized(SynchronizedTree tree, Void p) {
            never("synchronized", tree);
            return null;
        }

        @Override
        public Void visitAssert(AssertTree tree, Void p) {
            never("assert", tree);
            return null;
        }

        @Override
        public Void visitWhileLoop(WhileLoopTree tree, Void p) {
            never("a loop without a counter", tree);
            return null;
        }

        @Override
        public Void visitDoWhileLoop(DoWhileLoopTree tree, Void p) {
            never("a loop without a counter", tree);
            return null;
        }

        @Override
        public Void visitForLoop(ForLoopTree tree, Void p) {
            boolean counted = tree.getCondition() != null && tree.getUpdate().size() == 1
                && tree.getInitializer().size() == 1;
            Due.holds("line " + line(tree, false) + ": a loop by a counter", counted);
            return super.visitForLoop(tree, p);
        }

        private Set<String> reached(String from) {
            Set<String> seen = new HashSet<>();
            Deque<String> open = new ArrayDeque<>(calls.getOrDefault(from, Set.of()));
            while (!open.isEmpty()) {
                String next = open.pop();
                if (seen.add(next)) {
                    open.addAll(calls.getOrDefault(next, Set.of()));
                }
            }
            return seen;
        }

        /** Only private methods may call themselves, straight or by way of others. */
        void recursion() {
            for (String name : calls.keySet()) {
                if (reached(name).contains(name)) {
                    Due.holds(name + " calls itself and is private", hidden.contains(name));
                }
            }
        }

        /** How deep calls go; methods that call one another count as one. */
        void depth() {
            Map<String, Integer> known = new HashMap<>();
            for (String name : calls.keySet()) {
                int depth = depth(name, known);
                Due.holds(name + " goes " + depth + " deep", depth <= 8);
            }
        }

        private int depth(String name, Map<String, Integer> known) {
            if (known.containsKey(name)) {
                return known.get(name);
            }
            Set<String> group = new LinkedHashSet<>(Set.of(name));
            for (String other : reached(name)) {
                if (reached(other).contains(name)) {
                    group.add(other);
                }
            }
            int deepest = 0;
            for (String one : group) {
                for (String next : calls.getOrDefault(one, Set.of())) {
                    if (!group.contains(next)) {
                        deepest = Math.max(deepest, depth(next, known));
                    }
                }
            }
            known.put(name, deepest + 1);
            return deepest + 1;
        }
    }
}
