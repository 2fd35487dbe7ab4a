import com.sun.source.tree.AssertTree;
import com.sun.source.tree.ClassTree;
import com.sun.source.tree.CompilationUnitTree;
import com.sun.source.tree.InstanceOfTree;
import com.sun.source.tree.LambdaExpressionTree;
import com.sun.source.tree.LineMap;
import com.sun.source.tree.MemberReferenceTree;
import com.sun.source.tree.MethodInvocationTree;
import com.sun.source.tree.MethodTree;
import com.sun.source.tree.NewArrayTree;
import com.sun.source.tree.NewClassTree;
import com.sun.source.tree.SynchronizedTree;
import com.sun.source.tree.ThrowTree;
import com.sun.source.tree.Tree;
import com.sun.source.tree.TryTree;
import com.sun.source.tree.VariableTree;
import com.sun.source.util.JavacTask;
import com.sun.source.util.SourcePositions;
import com.sun.source.util.TreePath;
import com.sun.source.util.TreePathScanner;
import com.sun.source.util.Trees;
import java.nio.file.Path;
import java.util.ArrayList;
import java.util.HashMap;
import java.util.HashSet;
import java.util.List;
import java.util.Map;
import java.util.Set;
import javax.lang.model.element.Element;
import javax.lang.model.element.ElementKind;
import javax.lang.model.element.Modifier;
import javax.tools.JavaCompiler;
import javax.tools.StandardJavaFileManager;
import javax.tools.ToolProvider;

/** Those rules of ../shared/LANGUAGE.md that can be read off the source. */
public final class LanguageTest extends TreePathScanner<Void, Void> {
    private static final Set<String> LIBRARY = Set.of("java.lang.Math.min", "java.lang.Math.max",
        "java.lang.Integer.bitCount", "java.lang.System.arraycopy", "java.lang.String.length",
        "java.lang.String.charAt");

    private final List<String> faults = new ArrayList<>();
    private final Map<Element, Set<Element>> calls = new HashMap<>();
    private final Set<String> publicNames = new HashSet<>();
    private final List<String> privateNames = new ArrayList<>();
    private final Trees trees;
    private final SourcePositions positions;
    private final CompilationUnitTree unit;
    private int classes = 0;

    private LanguageTest(Trees trees, CompilationUnitTree unit) {
        this.trees = trees;
        this.positions = trees.getSourcePositions();
        this.unit = unit;
    }

    public static void main(String[] args) throws Exception {
        JavaCompiler compiler = ToolProvider.getSystemJavaCompiler();
        List<String> faults;
        try (StandardJavaFileManager files = compiler.getStandardFileManager(null, null, null)) {
            JavacTask task = (JavacTask) compiler.getTask(null, files, null, List.of("-proc:none"), null,
                files.getJavaFileObjects(Path.of(args[0])));
            CompilationUnitTree unit = task.parse().iterator().next();
            task.analyze();
            LanguageTest test = new LanguageTest(Trees.instance(task), unit);
            test.scan(new TreePath(unit), null);
            test.judgeNames();
            test.judgeCalls();
            faults = test.faults;
        }
        faults.forEach(System.out::println);
        System.out.println(faults.isEmpty() ? "the language is kept to" : faults.size() + " faults of language");
        if (!faults.isEmpty()) {
            System.exit(1);
        }
    }

    private void fault(Tree tree, int rule, String what) {
        LineMap lines = unit.getLineMap();
        faults.add("line " + lines.getLineNumber(positions.getStartPosition(unit, tree)) + ": rule " + rule
            + ": " + what);
    }

    private void judgeNames() {
        for (String name : privateNames) {
            if (publicNames.contains(name)) {
                faults.add("rule 1: a private method bears the name of a public one: " + name);
            }
        }
        if (classes > 12) {
            faults.add("rule 11: " + classes + " classes");
        }
        if (!unit.getImports().isEmpty() || unit.getPackageName() != null) {
            faults.add("a package or an import");
        }
    }

    private void judgeCalls() {
        for (Element method : calls.keySet()) {
            if (depth(method, new HashSet<>()) > 8) {
                faults.add("rule 11: calls deeper than eight from " + method);
            }
        }
    }

    private int depth(Element method, Set<Element> open) {
        if (!open.add(method)) {
            faults.add("rule 8: a recursion over " + method);
            return 0;
        }
        int most = 0;
        for (Element called : calls.getOrDefault(method, Set.of())) {
            most = Math.max(most, depth(called, open));
        }
        open.remove(method);
        return most + 1;
    }

    @Override
    public Void visitClass(ClassTree tree, Void nothing) {
        classes++;
        boolean isOutside = getCurrentPath().getParentPath().getLeaf() == unit;
        Set<Modifier> flags = tree.getModifiers().getFlags();
        if (!isOutside && !(flags.contains(Modifier.STATIC) && flags.contains(Modifier.PRIVATE))) {
            fault(tree, 2, "a class inside that isn't private and static");
        }
        int fields = 0;
        for (Tree member : tree.getMembers()) {
            if (member instanceof VariableTree) {
                Set<Modifier> of = ((VariableTree) member).getModifiers().getFlags();
                fields += of.contains(Modifier.STATIC) ? 0 : 1;
                if (of.contains(Modifier.STATIC) && !of.contains(Modifier.FINAL)) {
                    fault(member, 5, "a static field that isn't final");
                }
            } else if (!(member instanceof MethodTree) && !(member instanceof ClassTree)) {
                fault(member, 5, "an initialiser block");
            }
        }
        if (fields > 20) {
            fault(tree, 11, fields + " fields");
        }
        return super.visitClass(tree, nothing);
    }

    @Override
    public Void visitMethod(MethodTree tree, Void nothing) {
        LineMap lines = unit.getLineMap();
        long length = lines.getLineNumber(positions.getEndPosition(unit, tree))
            - lines.getLineNumber(positions.getStartPosition(unit, tree)) + 1;
        if (length > 60) {
            fault(tree, 11, length + " lines");
        }
        if (tree.getParameters().size() > 7) {
            fault(tree, 11, "more than seven parameters");
        }
        String name = tree.getName().toString();
        if (tree.getModifiers().getFlags().contains(Modifier.PUBLIC)) {
            publicNames.add(name);
        } else if (tree.getReturnType() != null) {
            privateNames.add(name);
        }
        if (Set.of("equals", "hashCode", "toString").contains(name)) {
            fault(tree, 6, name);
        }
        calls.putIfAbsent(trees.getElement(getCurrentPath()), new HashSet<>());
        return super.visitMethod(tree, nothing);
    }

    private MethodTree methodAround() {
        for (TreePath path = getCurrentPath(); path != null; path = path.getParentPath()) {
            if (path.getLeaf() instanceof MethodTree) {
                return (MethodTree) path.getLeaf();
            }
        }
        return null;
    }

    private Element elementAround() {
        for (TreePath path = getCurrentPath(); path != null; path = path.getParentPath()) {
            if (path.getLeaf() instanceof MethodTree) {
                return trees.getElement(path);
            }
        }
        return null;
    }

    @Override
    public Void visitMethodInvocation(MethodInvocationTree tree, Void nothing) {
        Element called = trees.getElement(getCurrentPath());
        String owner = called.getEnclosingElement().toString();
        boolean isConstructor = called.getKind() == ElementKind.CONSTRUCTOR;
        if (!owner.startsWith("UnexpectedBell") && !isConstructor
            && !LIBRARY.contains(owner + "." + called.getSimpleName())) {
            fault(tree, 4, "the library's " + owner + "." + called);
        }
        if (!isConstructor && elementAround() != null) {
            calls.computeIfAbsent(elementAround(), x -> new HashSet<>()).add(called);
        }
        return super.visitMethodInvocation(tree, nothing);
    }

    private void judgeMaking(Tree tree) {
        // Rows and schools are made once, so that no run of calls can fill the room.
        MethodTree around = methodAround();
        if (around != null && around.getReturnType() != null) {
            fault(tree, 12, "something is made by a call");
        }
    }

    @Override
    public Void visitNewClass(NewClassTree tree, Void nothing) {
        judgeMaking(tree);
        if (tree.getClassBody() != null) {
            fault(tree, 2, "an anonymous class");
        }
        return super.visitNewClass(tree, nothing);
    }

    @Override
    public Void visitNewArray(NewArrayTree tree, Void nothing) {
        judgeMaking(tree);
        return super.visitNewArray(tree, nothing);
    }

    @Override
    public Void visitLambdaExpression(LambdaExpressionTree tree, Void nothing) {
        fault(tree, 2, "a lambda");
        return super.visitLambdaExpression(tree, nothing);
    }

    @Override
    public Void visitMemberReference(MemberReferenceTree tree, Void nothing) {
        fault(tree, 2, "a method reference");
        return super.visitMemberReference(tree, nothing);
    }

    @Override
    public Void visitThrow(ThrowTree tree, Void nothing) {
        fault(tree, 6, "throw");
        return super.visitThrow(tree, nothing);
    }

    @Override
    public Void visitTry(TryTree tree, Void nothing) {
        fault(tree, 6, "try");
        return super.visitTry(tree, nothing);
    }

    @Override
    public Void visitSynchronized(SynchronizedTree tree, Void nothing) {
        fault(tree, 6, "synchronized");
        return super.visitSynchronized(tree, nothing);
    }

    @Override
    public Void visitAssert(AssertTree tree, Void nothing) {
        fault(tree, 6, "assert");
        return super.visitAssert(tree, nothing);
    }

    @Override
    public Void visitInstanceOf(InstanceOfTree tree, Void nothing) {
        fault(tree, 6, "instanceof: none is needed here");
        return super.visitInstanceOf(tree, nothing);
    }
}
