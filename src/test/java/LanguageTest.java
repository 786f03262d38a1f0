import com.sun.source.tree.BinaryTree;
import com.sun.source.tree.ClassTree;
import com.sun.source.tree.CompilationUnitTree;
import com.sun.source.tree.ExpressionTree;
import com.sun.source.tree.ForLoopTree;
import com.sun.source.tree.IdentifierTree;
import com.sun.source.tree.LiteralTree;
import com.sun.source.tree.MethodInvocationTree;
import com.sun.source.tree.MethodTree;
import com.sun.source.tree.NewArrayTree;
import com.sun.source.tree.NewClassTree;
import com.sun.source.tree.Tree;
import com.sun.source.tree.VariableTree;
import com.sun.source.util.JavacTask;
import com.sun.source.util.TreePath;
import com.sun.source.util.TreePathScanner;
import com.sun.source.util.Trees;
import java.io.IOException;
import java.nio.file.Path;
import java.util.ArrayDeque;
import java.util.Deque;
import java.util.EnumSet;
import java.util.HashMap;
import java.util.HashSet;
import java.util.List;
import java.util.Map;
import java.util.Set;
import javax.lang.model.element.Element;
import javax.lang.model.element.ElementKind;
import javax.lang.model.element.ExecutableElement;
import javax.lang.model.element.Modifier;
import javax.tools.JavaCompiler;
import javax.tools.StandardJavaFileManager;
import javax.tools.ToolProvider;

/**
 * The rules of LANGUAGE.md that can be seen in the program's text, and those that the project
 * keeps more strictly: no imports, no recursion, counted loops alone, and nothing made by a call.
 */
public final class LanguageTest extends TreePathScanner<Void, Void> {
    private static final Path PROGRAM = Path.of("src/main/java/CheapParse.java");
    private static final int MOST_LINES = 60;
    private static final int MOST_DEEP = 8;
    /** Rule 6 and 2: what the program has none of; and what it can do without. */
    private static final Set<Tree.Kind> NEVER = EnumSet.of(Tree.Kind.THROW, Tree.Kind.TRY,
        Tree.Kind.CATCH, Tree.Kind.SYNCHRONIZED, Tree.Kind.ASSERT, Tree.Kind.LAMBDA_EXPRESSION,
        Tree.Kind.MEMBER_REFERENCE, Tree.Kind.INSTANCE_OF, Tree.Kind.WHILE_LOOP,
        Tree.Kind.DO_WHILE_LOOP, Tree.Kind.STRING_LITERAL, Tree.Kind.DOUBLE_LITERAL,
        Tree.Kind.FLOAT_LITERAL, Tree.Kind.ANNOTATION, Tree.Kind.IMPORT, Tree.Kind.PACKAGE);
    /** Rule 4, as far as the program uses it. */
    private static final Set<String> LIBRARY = Set.of("java.lang.Math.min", "java.lang.Math.max",
        "java.lang.System.arraycopy", "java.lang.Object.<init>");

    private final Trees trees;
    private final Map<Element, Set<Element>> calls = new HashMap<>();
    private final Set<Element> making = new HashSet<>();
    private final Deque<Element> within = new ArrayDeque<>();
    private CompilationUnitTree unit;

    private LanguageTest(Trees trees) {
        this.trees = trees;
    }

    public static void main(String[] args) throws IOException {
        JavaCompiler compiler = ToolProvider.getSystemJavaCompiler();
        try (StandardJavaFileManager files = compiler.getStandardFileManager(null, null, null)) {
            JavacTask task = (JavacTask) compiler.getTask(null, files, null,
                List.of("-proc:none", "-implicit:none"), null, files.getJavaFileObjects(PROGRAM));
            Iterable<? extends CompilationUnitTree> units = task.parse();
            task.analyze();
            LanguageTest test = new LanguageTest(Trees.instance(task));
            for (CompilationUnitTree unit : units) {
                test.look(unit);
            }
        }
        Due.end();
    }

    private void due(String what, Tree where, boolean holds) {
        long line = unit.getLineMap().getLineNumber(
            trees.getSourcePositions().getStartPosition(unit, where));
        Due.due("line " + line + ": " + what, holds ? 1 : 0, 1);
    }

    private void look(CompilationUnitTree program) {
        unit = program;
        due("one class in the file", program, program.getTypeDecls().size() == 1);
        scan(program, null);
        for (Element method : calls.keySet()) {
            deep(method, new ArrayDeque<>());
        }
        for (Element method : calls.keySet()) {
            if (method.getModifiers().contains(Modifier.PUBLIC)
                && method.getKind() == ElementKind.METHOD) {
                Due.due(method + " makes nothing", makes(method) ? 1 : 0, 0);
            }
        }
    }

    @Override
    public Void scan(Tree tree, Void nothing) {
        if (tree != null) {
            due("no " + tree.getKind(), tree, !NEVER.contains(tree.getKind()));
        }
        return super.scan(tree, nothing);
    }

    @Override
    public Void visitClass(ClassTree tree, Void nothing) {
        boolean outer = getCurrentPath().getParentPath().getLeaf() == unit;
        Set<Modifier> modifiers = tree.getModifiers().getFlags();
        due("rule 1 and 2: the class's modifiers", tree, outer
            ? modifiers.equals(Set.of(Modifier.PUBLIC, Modifier.FINAL))
            : modifiers.equals(Set.of(Modifier.PRIVATE, Modifier.STATIC, Modifier.FINAL)));
        for (Tree member : tree.getMembers()) {
            due("rule 5: no block of its own", member, member.getKind() != Tree.Kind.BLOCK);
            due("rule 2: classes one within the other only once", member,
                outer || member.getKind() != Tree.Kind.CLASS);
        }
        return super.visitClass(tree, nothing);
    }

    @Override
    public Void visitVariable(VariableTree tree, Void nothing) {
        Set<Modifier> modifiers = tree.getModifiers().getFlags();
        boolean field = getCurrentPath().getParentPath().getLeaf() instanceof ClassTree;
        if (field && modifiers.contains(Modifier.STATIC)) {
            due("rule 5: a constant of int", tree, modifiers.contains(Modifier.FINAL)
                && tree.getType().toString().equals("int") && tree.getInitializer() != null);
        }
        if (field) {
            due("rule 1: no field is seen from outside", tree, modifiers.contains(Modifier.PRIVATE)
                || tree.getName().contentEquals("NONE"));
        }
        return super.visitVariable(tree, nothing);
    }

    @Override
    public Void visitMethod(MethodTree tree, Void nothing) {
        long first = lineOf(trees.getSourcePositions().getStartPosition(unit, tree));
        long last = lineOf(trees.getSourcePositions().getEndPosition(unit, tree));
        due("rule 11: a short method", tree, last - first < MOST_LINES);
        due("rule 11: at most seven parameters", tree, tree.getParameters().size() <= 7);
        Element method = trees.getElement(getCurrentPath());
        calls.put(method, new HashSet<>());
        within.push(method);
        super.visitMethod(tree, nothing);
        within.pop();
        return null;
    }

    private long lineOf(long position) {
        return unit.getLineMap().getLineNumber(position);
    }

    @Override
    public Void visitMethodInvocation(MethodInvocationTree tree, Void nothing) {
        noteCall(tree, trees.getElement(new TreePath(getCurrentPath(), tree.getMethodSelect())));
        dueNothingHandedOut(tree.getArguments());
        return super.visitMethodInvocation(tree, nothing);
    }

    @Override
    public Void visitNewClass(NewClassTree tree, Void nothing) {
        due("rule 2: no class without a name", tree, tree.getClassBody() == null);
        noteCall(tree, trees.getElement(getCurrentPath()));
        noteMaking();
        dueNothingHandedOut(tree.getArguments());
        return super.visitNewClass(tree, nothing);
    }

    @Override
    public Void visitNewArray(NewArrayTree tree, Void nothing) {
        noteMaking();
        return super.visitNewArray(tree, nothing);
    }

    @Override
    public Void visitForLoop(ForLoopTree tree, Void nothing) {
        due("rule 9: a counter against a bound", tree, tree.getInitializer().size() == 1
            && tree.getUpdate().size() == 1 && tree.getCondition() != null);
        return super.visitForLoop(tree, nothing);
    }

    @Override
    public Void visitBinary(BinaryTree tree, Void nothing) {
        boolean divides = tree.getKind() == Tree.Kind.DIVIDE
            || tree.getKind() == Tree.Kind.REMAINDER;
        due("rule 7: only numbers that are written out divide", tree, !divides
            || tree.getRightOperand() instanceof LiteralTree number
            && !number.getValue().equals(0));
        return super.visitBinary(tree, nothing);
    }

    private void noteMaking() {
        if (!within.isEmpty()) {
            making.add(within.peek());
        }
    }

    private void noteCall(Tree tree, Element called) {
        if (called.getEnclosingElement().toString().startsWith("java.")) {
            String name = called.getEnclosingElement() + "." + called.getSimpleName();
            due("rule 4: " + name, tree, LIBRARY.contains(name));
        } else if (!within.isEmpty()) {
            calls.get(within.peek()).add(called);
        }
    }

    private void dueNothingHandedOut(List<? extends ExpressionTree> arguments) {
        for (ExpressionTree argument : arguments) {
            due("rule 12: the object itself is not handed out", argument,
                !(argument instanceof IdentifierTree name && name.getName().contentEquals("this")));
        }
    }

    private boolean makes(Element method) {
        Set<Element> reached = new HashSet<>();
        Deque<Element> left = new ArrayDeque<>(Set.of(method));
        while (!left.isEmpty()) {
            Element next = left.pop();
            if (reached.add(next)) {
                left.addAll(calls.getOrDefault(next, Set.of()));
            }
        }
        reached.retainAll(making);
        return !reached.isEmpty();
    }

    private void deep(Element method, Deque<Element> open) {
        boolean again = open.contains(method);
        Due.due("rule 8: " + named(method) + " calls itself", again ? 1 : 0, 0);
        open.push(method);
        Due.due("rule 11: at most " + MOST_DEEP + " deep, " + named(method),
            open.size() <= MOST_DEEP ? 1 : 0, 1);
        if (!again) {
            for (Element called : calls.getOrDefault(method, Set.of())) {
                deep(called, open);
            }
        }
        open.pop();
    }

    private static String named(Element method) {
        return method.getEnclosingElement().getSimpleName() + "."
            + ((ExecutableElement) method).getSimpleName();
    }
}
