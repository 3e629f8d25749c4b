import com.sun.source.tree.*;
import com.sun.source.util.JavacTask;
import com.sun.source.util.SourcePositions;
import com.sun.source.util.TreePath;
import com.sun.source.util.TreePathScanner;
import com.sun.source.util.Trees;
import java.io.File;
import java.util.ArrayList;
import java.util.HashSet;
import java.util.LinkedHashMap;
import java.util.LinkedHashSet;
import java.util.List;
import java.util.Map;
import java.util.Set;
import javax.lang.model.element.Element;
import javax.lang.model.element.ExecutableElement;
import javax.lang.model.element.Modifier;
import javax.lang.model.type.TypeMirror;
import javax.tools.JavaCompiler;
import javax.tools.JavaFileObject;
import javax.tools.StandardJavaFileManager;
import javax.tools.ToolProvider;

/** The rules of LANGUAGE.md that a program can look at: which Java the class is written in, and how large its parts are. */
public final class LanguageTest {
    private static final Set<String> FACE = Set.of("input", "define", "drop", "copy", "freeze", "begin", "end", "cancel",
            "feed", "clear", "value", "of", "reads", "readers", "order", "why", "way", "whatIf", "would", "seek", "spell",
            "paper", "watch", "quit", "log", "logged", "told", "past", "list", "set", "get", "move", "fill", "pour",
            "image", "undo");
    private static final Set<String> LIBRARY = Set.of("System.arraycopy", "Arrays.copyOf", "Arrays.copyOfRange",
            "Arrays.fill", "Math.max", "Math.min", "Math.abs", "Math.floorMod", "Math.floorDiv", "Long.bitCount",
            "Integer.bitCount", "Long.compare", "Integer.compare");

    private static int wrong = 0;
    private static int looked = 0;

    private static Trees trees;
    private static CompilationUnitTree unit;
    private static final Map<Element, Set<Element>> calls = new LinkedHashMap<>();

    public static void main(String[] args) throws Exception {
        JavaCompiler compiler = ToolProvider.getSystemJavaCompiler();
        StandardJavaFileManager files = compiler.getStandardFileManager(null, null, null);
        Iterable<? extends JavaFileObject> sources = files.getJavaFileObjects(new File("src/main/java/ReactiveSheet.java"));
        JavacTask task = (JavacTask) compiler.getTask(null, files, null, List.of("-proc:none"), null, sources);
        unit = task.parse().iterator().next();
        task.analyze();
        trees = Trees.instance(task);
        rule("no package", unit.getPackageName() == null);
        rule("one class in the file", unit.getTypeDecls().size() == 1);
        for (ImportTree imported : unit.getImports()) {
            rule("import " + imported.getQualifiedIdentifier(), imported.getQualifiedIdentifier().toString().equals("java.util.Arrays"));
        }
        Looker looker = new Looker();
        looker.scan(unit, null);
        rule(looker.classes + " classes", looker.classes <= 12);
        rule("the whole face is there", looker.open.equals(FACE));
        rule("longest chain of calls " + longest(), longest() <= 8);
        System.out.println("longest chain of calls: " + longest());
        System.out.println("LanguageTest: " + looked + " looks, " + wrong + " not as the rules tell");
        if (wrong > 0 || looked < 100) {
            System.exit(1);
        }
    }

    private static void rule(String what, boolean kept) {
        looked++;
        if (!kept) {
            wrong++;
            System.out.println("rule broken: " + what);
        }
    }

    private static long line(Tree tree) {
        SourcePositions positions = trees.getSourcePositions();
        return unit.getLineMap().getLineNumber(positions.getStartPosition(unit, tree));
    }

    private static long lines(Tree tree) {
        SourcePositions positions = trees.getSourcePositions();
        return unit.getLineMap().getLineNumber(positions.getEndPosition(unit, tree)) - line(tree) + 1;
    }

    // ---- how deep calls go, all methods that call one another taken as one

    private static boolean leadsTo(Element from, Element to, Set<Element> seen) {
        for (Element next : calls.getOrDefault(from, Set.of())) {
            if (next == to || seen.add(next) && leadsTo(next, to, seen)) {
                return true;
            }
        }
        return false;
    }

    private static int longest() {
        Map<Element, Set<Element>> circles = new LinkedHashMap<>();
        for (Element one : calls.keySet()) {
            Set<Element> circle = new LinkedHashSet<>(Set.of(one));
            for (Element other : calls.keySet()) {
                if (leadsTo(one, other, new HashSet<>()) && leadsTo(other, one, new HashSet<>())) {
                    circle.add(other);
                }
            }
            circles.put(one, circle);
        }
        int longest = 0;
        for (Element one : calls.keySet()) {
            longest = Math.max(longest, chain(one, circles, new LinkedHashMap<>()));
        }
        return longest;
    }

    private static int chain(Element one, Map<Element, Set<Element>> circles, Map<Element, Integer> known) {
        if (known.containsKey(one)) {
            return known.get(one);
        }
        int longest = 0;
        Set<Element> circle = circles.get(one);
        for (Element member : circle) {
            for (Element next : calls.getOrDefault(member, Set.of())) {
                if (!circle.contains(next)) {
                    longest = Math.max(longest, chain(next, circles, known));
                }
            }
        }
        known.put(one, longest + 1);
        return longest + 1;
    }

    // ---- what stands in the file

    private static final class Looker extends TreePathScanner<Void, Void> {
        int classes = 0;
        final Set<String> open = new HashSet<>();
        private Element method = null;

        private void never(Tree tree) {
            rule(tree.getKind() + " in line " + line(tree), false);
        }

        @Override
        public Void visitClass(ClassTree tree, Void none) {
            classes++;
            Set<Modifier> flags = tree.getModifiers().getFlags();
            boolean outer = getCurrentPath().getParentPath().getLeaf() == unit;
            String name = tree.getSimpleName().toString();
            rule("class " + name, outer ? flags.equals(Set.of(Modifier.PUBLIC, Modifier.FINAL))
                    : flags.contains(Modifier.PRIVATE) && flags.contains(Modifier.STATIC)
                    && getCurrentPath().getParentPath().getParentPath().getLeaf() == unit);
            int fields = 0;
            for (Tree member : tree.getMembers()) {
                if (member instanceof VariableTree) {
                    fields += field((VariableTree) member, outer) ? 1 : 0;
                }
                rule("no initialiser block in " + name, !(member instanceof BlockTree));
            }
            rule(fields + " fields in " + name, fields <= 20);
            return super.visitClass(tree, none);
        }

        /** Whether it is one beside the constants. */
        private boolean field(VariableTree tree, boolean outer) {
            Set<Modifier> flags = tree.getModifiers().getFlags();
            if (flags.contains(Modifier.STATIC)) {
                rule("static " + tree.getName(), flags.contains(Modifier.FINAL) && tree.getInitializer() != null
                        && !(tree.getInitializer() instanceof MethodInvocationTree));
                boolean known = Set.of("NONE", "BAD", "STATE", "FULL", "RING", "NO").contains(tree.getName().toString());
                rule("constant " + tree.getName(), !outer || flags.contains(known ? Modifier.PUBLIC : Modifier.PRIVATE));
                return false;
            }
            rule("field " + tree.getName(), flags.contains(Modifier.PRIVATE));
            return true;
        }

        @Override
        public Void visitMethod(MethodTree tree, Void none) {
            Set<Modifier> flags = tree.getModifiers().getFlags();
            String name = tree.getName().toString();
            Element owner = trees.getElement(getCurrentPath()).getEnclosingElement();
            boolean outer = owner.getSimpleName().contentEquals("ReactiveSheet");
            if (outer && flags.contains(Modifier.PUBLIC) && !name.equals("<init>")) {
                open.add(name);
            }
            rule("method " + name, outer ? flags.contains(Modifier.PUBLIC) || flags.contains(Modifier.PRIVATE)
                    : !flags.contains(Modifier.PUBLIC) && !flags.contains(Modifier.PROTECTED));
            rule("a method with a name of the face: " + name, flags.contains(Modifier.PUBLIC) || !FACE.contains(name));
            rule("parameters of " + name, tree.getParameters().size() <= 7);
            rule("lines of " + name + ": " + lines(tree), lines(tree) <= 60);
            rule("throws of " + name, tree.getThrows().isEmpty());
            method = trees.getElement(getCurrentPath());
            calls.computeIfAbsent(method, key -> new LinkedHashSet<>());
            super.visitMethod(tree, none);
            method = null;
            return null;
        }

        @Override
        public Void visitMethodInvocation(MethodInvocationTree tree, Void none) {
            Element called = trees.getElement(new TreePath(getCurrentPath(), tree.getMethodSelect()));
            if (called instanceof ExecutableElement) {
                String owner = called.getEnclosingElement().toString();
                if (owner.startsWith("ReactiveSheet")) {
                    calls.computeIfAbsent(method, key -> new LinkedHashSet<>()).add(called);
                } else if (!called.getSimpleName().contentEquals("<init>")) {
                    String text = owner.replaceAll(".*\\.", "") + "." + called.getSimpleName();
                    rule("library: " + text, LIBRARY.contains(text) || text.equals("Array.clone"));
                }
            }
            return super.visitMethodInvocation(tree, none);
        }

        @Override
        public Void visitNewClass(NewClassTree tree, Void none) {
            rule("new " + tree.getIdentifier() + " with a body", tree.getClassBody() == null);
            Element made = trees.getElement(new TreePath(getCurrentPath(), tree.getIdentifier()));
            rule("new " + tree.getIdentifier(), made.toString().startsWith("ReactiveSheet."));
            return super.visitNewClass(tree, none);
        }

        @Override
        public Void visitBinary(BinaryTree tree, Void none) {
            TypeMirror type = trees.getTypeMirror(getCurrentPath());
            rule("+ of texts in line " + line(tree), !type.toString().equals("java.lang.String"));
            return super.visitBinary(tree, none);
        }

        @Override
        public Void visitIdentifier(IdentifierTree tree, Void none) {
            boolean alone = tree.getName().contentEquals("this")
                    && !(getCurrentPath().getParentPath().getLeaf() instanceof MemberSelectTree);
            rule("this handed out in line " + line(tree), !alone);
            return super.visitIdentifier(tree, none);
        }

        @Override
        public Void visitTry(TryTree tree, Void none) {
            never(tree);
            return null;
        }

        @Override
        public Void visitThrow(ThrowTree tree, Void none) {
            never(tree);
            return null;
        }

        @Override
        public Void visitAssert(AssertTree tree, Void none) {
            never(tree);
            return null;
        }

        @Override
        public Void visitSynchronized(SynchronizedTree tree, Void none) {
            never(tree);
            return null;
        }

        @Override
        public Void visitLambdaExpression(LambdaExpressionTree tree, Void none) {
            never(tree);
            return null;
        }

        @Override
        public Void visitMemberReference(MemberReferenceTree tree, Void none) {
            never(tree);
            return null;
        }

        @Override
        public Void visitSwitchExpression(SwitchExpressionTree tree, Void none) {
            never(tree);
            return null;
        }

        @Override
        public Void visitWhileLoop(WhileLoopTree tree, Void none) {
            never(tree);
            return null;
        }

        @Override
        public Void visitDoWhileLoop(DoWhileLoopTree tree, Void none) {
            never(tree);
            return null;
        }

        @Override
        public Void visitForLoop(ForLoopTree tree, Void none) {
            rule("a loop with a bound in line " + line(tree), tree.getCondition() != null);
            return super.visitForLoop(tree, none);
        }
    }
}
