import com.sun.source.tree.AssertTree;
import com.sun.source.tree.BinaryTree;
import com.sun.source.tree.BlockTree;
import com.sun.source.tree.CatchTree;
import com.sun.source.tree.ClassTree;
import com.sun.source.tree.CompilationUnitTree;
import com.sun.source.tree.CompoundAssignmentTree;
import com.sun.source.tree.ExpressionTree;
import com.sun.source.tree.IdentifierTree;
import com.sun.source.tree.ImportTree;
import com.sun.source.tree.LambdaExpressionTree;
import com.sun.source.tree.LiteralTree;
import com.sun.source.tree.MemberReferenceTree;
import com.sun.source.tree.MethodInvocationTree;
import com.sun.source.tree.MethodTree;
import com.sun.source.tree.NewArrayTree;
import com.sun.source.tree.NewClassTree;
import com.sun.source.tree.SynchronizedTree;
import com.sun.source.tree.ThrowTree;
import com.sun.source.tree.Tree;
import com.sun.source.tree.TryTree;
import com.sun.source.tree.VariableTree;
import com.sun.source.util.TreePath;
import com.sun.source.util.TreePathScanner;
import com.sun.source.util.Trees;
import java.util.HashSet;
import java.util.Set;
import javax.lang.model.element.Element;
import javax.lang.model.element.ExecutableElement;
import javax.lang.model.element.Modifier;
import javax.lang.model.type.TypeMirror;

/** Goes through the program's lines once and notes what breaks a rule, with the rule's number. */
final class LanguageRules extends TreePathScanner<Void, Void> {
    private static final Set<String> IMPORTS = Set.of("java.util.Arrays", "java.util.ArrayList", "java.util.List",
        "java.util.Iterator", "java.util.NoSuchElementException");
    private static final Set<String> LIBRARY = Set.of("Arrays.fill", "Arrays.copyOf", "Arrays.copyOfRange",
        "System.arraycopy", "Math.max", "Math.min", "Math.abs", "Math.floorDiv", "Math.floorMod");
    // Narrower than rule 6: of these the machine itself throws none, and they aren't above any that it throws.
    private static final Set<String> THROWN = Set.of("IllegalStateException", "IllegalArgumentException");
    private static final Set<Tree.Kind> LOOPS = Set.of(Tree.Kind.FOR_LOOP, Tree.Kind.ENHANCED_FOR_LOOP,
        Tree.Kind.WHILE_LOOP, Tree.Kind.DO_WHILE_LOOP);

    private final CompilationUnitTree unit;
    private final Trees trees;
    private final CallChains calls = new CallChains();
    private final Set<ExecutableElement> throwing = new HashSet<>();
    private final Set<ExecutableElement> trying = new HashSet<>();
    private final StringBuilder broken = new StringBuilder();
    private int classes;

    LanguageRules(CompilationUnitTree unit, Trees trees) {
        this.unit = unit;
        this.trees = trees;
    }

    String broken() {
        return broken.toString();
    }

    int classes() {
        return classes;
    }

    CallChains calls() {
        return calls;
    }

    private void breaks(boolean is, int rule, String told, Tree tree) {
        if (is) {
            broken.append("rule ").append(rule).append(", line ").append(lineOf(tree)).append(": ").append(told).append('\n');
        }
    }

    private long lineOf(Tree tree) {
        return unit.getLineMap().getLineNumber(trees.getSourcePositions().getStartPosition(unit, tree));
    }

    private long linesOf(Tree tree) {
        long end = unit.getLineMap().getLineNumber(trees.getSourcePositions().getEndPosition(unit, tree));
        return end - lineOf(tree) + 1;
    }

    private boolean standsInLoop() {
        for (TreePath path = getCurrentPath(); path != null; path = path.getParentPath()) {
            if (LOOPS.contains(path.getLeaf().getKind())) {
                return true;
            }
            if (path.getLeaf() instanceof MethodTree) {
                return false;
            }
        }
        return false;
    }

    private ExecutableElement methodAround() {
        for (TreePath path = getCurrentPath(); path != null; path = path.getParentPath()) {
            if (path.getLeaf() instanceof MethodTree) {
                return (ExecutableElement) trees.getElement(path);
            }
        }
        return null;
    }

    private static boolean isOfLibrary(Element method) {
        return method.getEnclosingElement().toString().startsWith("java.");
    }

    @Override
    public Void visitCompilationUnit(CompilationUnitTree tree, Void none) {
        breaks(tree.getPackage() != null, 1, "a package line", tree);
        breaks(tree.getTypeDecls().size() != 1, 1, "not one class alone in the file", tree);
        return super.visitCompilationUnit(tree, none);
    }

    @Override
    public Void visitImport(ImportTree tree, Void none) {
        String named = tree.getQualifiedIdentifier().toString();
        breaks(tree.isStatic() || !IMPORTS.contains(named), 4, "import of " + named, tree);
        return null;
    }

    @Override
    public Void visitClass(ClassTree tree, Void none) {
        classes++;
        boolean inside = getCurrentPath().getParentPath().getLeaf() instanceof ClassTree;
        boolean outmost = getCurrentPath().getParentPath().getLeaf() instanceof CompilationUnitTree;
        breaks(!inside && !outmost, 2, "a class inside a method", tree);
        breaks(inside && !tree.getModifiers().getFlags().contains(Modifier.STATIC), 1, "an inner class", tree);
        int fields = 0;
        for (Tree member : tree.getMembers()) {
            if (member instanceof VariableTree field) {
                Set<Modifier> flags = field.getModifiers().getFlags();
                boolean constant = flags.contains(Modifier.STATIC);
                breaks(constant && !flags.contains(Modifier.FINAL), 5, "a static field that changes", field);
                fields += constant ? 0 : 1;
            }
            breaks(member instanceof BlockTree block && block.isStatic(), 5, "a static initialiser block", member);
        }
        breaks(fields > 20, 11, "more than twenty fields", tree);
        return super.visitClass(tree, none);
    }

    @Override
    public Void visitMethod(MethodTree tree, Void none) {
        calls.method((ExecutableElement) trees.getElement(getCurrentPath()));
        String name = tree.getName().toString();
        breaks(tree.getParameters().size() > 7, 11, "more than seven parameters", tree);
        breaks(linesOf(tree) > 60, 11, "a method of more than sixty lines", tree);
        breaks(Set.of("equals", "hashCode", "toString", "finalize").contains(name), 6, "a method " + name, tree);
        breaks(tree.getModifiers().getFlags().contains(Modifier.SYNCHRONIZED), 6, "synchronized", tree);
        return super.visitMethod(tree, none);
    }

    @Override
    public Void visitMethodInvocation(MethodInvocationTree tree, Void none) {
        ExecutableElement to = (ExecutableElement) trees.getElement(getCurrentPath());
        ExecutableElement from = methodAround();
        if (isOfLibrary(to) && !to.getSimpleName().contentEquals("<init>")) {
            String told = to.getEnclosingElement().getSimpleName() + "." + to.getSimpleName();
            breaks(!LIBRARY.contains(told), 4, told, tree);
        }
        breaks(isConstructor(from) && !isOfLibrary(to) && !to.getModifiers().contains(Modifier.STATIC)
            && !to.getSimpleName().contentEquals("<init>"), 12, "a constructor calls " + to, tree);
        if (from != null) {
            calls.call(from, to);
        }
        return super.visitMethodInvocation(tree, none);
    }

    @Override
    public Void visitNewClass(NewClassTree tree, Void none) {
        breaks(tree.getClassBody() != null, 2, "a class without a name", tree);
        ExecutableElement made = (ExecutableElement) trees.getElement(getCurrentPath());
        breaks(isOfLibrary(made) && getCurrentPath().getParentPath().getLeaf().getKind() != Tree.Kind.THROW, 4,
            "new " + made, tree);
        ExecutableElement from = methodAround();
        if (from != null) {
            calls.call(from, made);
        }
        breaks(!isConstructor(from) && standsInLoop(), 12, "an object made in a loop", tree);
        return super.visitNewClass(tree, none);
    }

    @Override
    public Void visitNewArray(NewArrayTree tree, Void none) {
        ExecutableElement from = methodAround();
        breaks(!isConstructor(from), 12, "an array made by a call", tree);
        return super.visitNewArray(tree, none);
    }

    private static boolean isConstructor(ExecutableElement method) {
        return method == null || method.getSimpleName().contentEquals("<init>");
    }

    @Override
    public Void visitThrow(ThrowTree tree, Void none) {
        ExpressionTree thrown = tree.getExpression();
        boolean plain = thrown instanceof NewClassTree made && THROWN.contains(made.getIdentifier().toString())
            && made.getArguments().stream().allMatch(argument -> argument instanceof LiteralTree);
        breaks(!plain, 6, "throw " + thrown, tree);
        breaks(isConstructor(methodAround()), 6, "a throw in a constructor", tree);
        throwing.add(methodAround());
        breaks(trying.contains(methodAround()), 6, "a throw and a try in one method", tree);
        return super.visitThrow(tree, none);
    }

    @Override
    public Void visitTry(TryTree tree, Void none) {
        breaks(tree.getFinallyBlock() != null || !tree.getResources().isEmpty(), 6, "finally, or resources", tree);
        trying.add(methodAround());
        breaks(throwing.contains(methodAround()), 6, "a try and a throw in one method", tree);
        return super.visitTry(tree, none);
    }

    @Override
    public Void visitCatch(CatchTree tree, Void none) {
        String type = tree.getParameter().getType().toString();
        breaks(!THROWN.contains(type), 6, "a catch of " + type, tree);
        String name = tree.getParameter().getName().toString();
        new TreePathScanner<Void, Void>() {
            @Override
            public Void visitIdentifier(IdentifierTree identifier, Void nothing) {
                breaks(identifier.getName().contentEquals(name), 6, "a catch that uses " + name, identifier);
                return null;
            }
        }.scan(new TreePath(getCurrentPath(), tree.getBlock()), null);
        return super.visitCatch(tree, none);
    }

    @Override
    public Void visitBinary(BinaryTree tree, Void none) {
        breaks(tree.getKind() == Tree.Kind.PLUS && isText(tree), 10, "texts joined by +", tree);
        return super.visitBinary(tree, none);
    }

    @Override
    public Void visitCompoundAssignment(CompoundAssignmentTree tree, Void none) {
        breaks(isText(tree), 10, "texts joined by +=", tree);
        return super.visitCompoundAssignment(tree, none);
    }

    private boolean isText(Tree tree) {
        TypeMirror type = trees.getTypeMirror(new TreePath(getCurrentPath().getParentPath(), tree));
        return type != null && type.toString().equals("java.lang.String");
    }

    @Override
    public Void visitLambdaExpression(LambdaExpressionTree tree, Void none) {
        breaks(true, 2, "a lambda", tree);
        return super.visitLambdaExpression(tree, none);
    }

    @Override
    public Void visitMemberReference(MemberReferenceTree tree, Void none) {
        breaks(true, 2, "a method reference", tree);
        return super.visitMemberReference(tree, none);
    }

    @Override
    public Void visitSynchronized(SynchronizedTree tree, Void none) {
        breaks(true, 6, "synchronized", tree);
        return super.visitSynchronized(tree, none);
    }

    @Override
    public Void visitAssert(AssertTree tree, Void none) {
        breaks(true, 6, "assert", tree);
        return super.visitAssert(tree, none);
    }
}
