import com.sun.source.tree.AssertTree;
import com.sun.source.tree.BinaryTree;
import com.sun.source.tree.BlockTree;
import com.sun.source.tree.ClassTree;
import com.sun.source.tree.CompilationUnitTree;
import com.sun.source.tree.DoWhileLoopTree;
import com.sun.source.tree.ExpressionTree;
import com.sun.source.tree.ForLoopTree;
import com.sun.source.tree.ImportTree;
import com.sun.source.tree.LambdaExpressionTree;
import com.sun.source.tree.LiteralTree;
import com.sun.source.tree.MemberReferenceTree;
import com.sun.source.tree.MethodInvocationTree;
import com.sun.source.tree.MethodTree;
import com.sun.source.tree.NewClassTree;
import com.sun.source.tree.SynchronizedTree;
import com.sun.source.tree.ThrowTree;
import com.sun.source.tree.Tree;
import com.sun.source.tree.TryTree;
import com.sun.source.tree.VariableTree;
import com.sun.source.tree.WhileLoopTree;
import com.sun.source.util.JavacTask;
import com.sun.source.util.TreePath;
import com.sun.source.util.TreePathScanner;
import com.sun.source.util.Trees;
import java.io.IOException;
import java.util.ArrayList;
import java.util.HashMap;
import java.util.LinkedHashSet;
import java.util.List;
import java.util.Map;
import java.util.Set;
import javax.lang.model.element.Element;
import javax.lang.model.element.ElementKind;
import javax.lang.model.element.Modifier;
import javax.lang.model.type.TypeKind;
import javax.tools.JavaCompiler;
import javax.tools.ToolProvider;

/** The program keeps to the rules of ../shared/LANGUAGE.md that can be seen in its text. */
public final class LanguageTest extends TreePathScanner<Void, Void> {
    private static final int MOST_PARAMETERS = 7;
    private static final int MOST_LINES = 60;
    private static final int MOST_DEPTH = 8;
    private static final int MOST_CLASSES = 12;
    private static final int MOST_FIELDS = 20;

    private static final Set<String> IMPORTS = Set.of("java.util.ArrayList", "java.util.List", "java.util.Arrays",
            "java.util.Iterator", "java.util.NoSuchElementException");
    private static final Set<String> THROWN = Set.of("IllegalStateException", "IllegalArgumentException",
            "IndexOutOfBoundsException", "ArithmeticException", "UnsupportedOperationException",
            "NoSuchElementException", "RuntimeException");
    private static final Set<String> MADE = Set.of("String", "StringBuilder", "ArrayList");
    private static final Map<String, Set<String>> LIBRARY = Map.of(
            "String", Set.of("length", "charAt", "isEmpty", "equals", "indexOf", "substring", "toCharArray"),
            "StringBuilder", Set.of("append", "charAt", "setCharAt", "setLength", "deleteCharAt", "reverse", "length",
                    "toString"),
            "List", Set.of("add", "get", "set", "remove", "size", "isEmpty", "clear", "of"),
            "ArrayList", Set.of("add", "get", "set", "remove", "size", "isEmpty", "clear"),
            "Math", Set.of("max", "min", "abs", "floorDiv", "floorMod"),
            "Integer", Set.of("compare", "max", "min", "bitCount", "numberOfTrailingZeros"),
            "Long", Set.of("compare", "max", "min", "bitCount", "numberOfTrailingZeros"),
            "System", Set.of("arraycopy"),
            "Arrays", Set.of("copyOf", "copyOfRange", "fill"),
            "Array", Set.of("clone"));

    private final CompilationUnitTree unit;
    private final Trees trees;
    private final Set<String> face = new LinkedHashSet<>();
    private final Set<String> hidden = new LinkedHashSet<>();
    private final Map<Element, Set<Element>> calls = new HashMap<>();
    private final Set<Element> classes = new LinkedHashSet<>();

    private LanguageTest(CompilationUnitTree unit, Trees trees) {
        this.unit = unit;
        this.trees = trees;
    }

    public static void main(String[] args) throws IOException {
        JavaCompiler compiler = ToolProvider.getSystemJavaCompiler();
        JavacTask task = (JavacTask) compiler.getTask(null, null, null, List.of("-proc:none"), null,
                compiler.getStandardFileManager(null, null, null).getJavaFileObjects(Folders.PROGRAM));
        CompilationUnitTree unit = task.parse().iterator().next();
        task.analyze();
        LanguageTest test = new LanguageTest(unit, Trees.instance(task));
        test.scan(unit, null);
        test.compareWhole();
        Check.end();
    }

    private void compareWhole() {
        Check.holds("no package line", unit.getPackageName() == null);
        Check.answers("classes in the file", 1, () -> unit.getTypeDecls().size());
        Check.holds("some twelve classes", classes.size() <= MOST_CLASSES);
        Check.holds("signs 1 to 127", Folders.read(Folders.PROGRAM).chars().allMatch(sign -> sign >= 1 && sign <= 127));
        Check.holds("methods of the face", face.size() == 18);
        for (String name : hidden) {
            Check.holds(name + " is not the name of a public method", !face.contains(name));
        }
        for (Element method : calls.keySet()) {
            depth(method, new ArrayList<>());
        }
    }

    /** How many calls stand open at once, when a method has been called and has called others. */
    private int depth(Element method, List<Element> open) {
        Check.holds(method + " does not call itself through " + open, !open.contains(method));
        if (open.contains(method)) {
            return 0;
        }
        open.add(method);
        int deepest = 0;
        for (Element called : calls.getOrDefault(method, Set.of())) {
            deepest = Math.max(deepest, depth(called, open));
        }
        open.remove(method);
        Check.holds(method + " goes no deeper than " + MOST_DEPTH + " calls", deepest < MOST_DEPTH);
        return deepest + 1;
    }

    private void keeps(String rule, Tree where, boolean holds) {
        Check.holds(rule + ", line " + line(where), holds);
    }

    private long line(Tree tree) {
        return unit.getLineMap().getLineNumber(trees.getSourcePositions().getStartPosition(unit, tree));
    }

    private long lastLine(Tree tree) {
        return unit.getLineMap().getLineNumber(trees.getSourcePositions().getEndPosition(unit, tree));
    }

    private Element here() {
        return trees.getElement(getCurrentPath());
    }

    private MethodTree methodAround() {
        for (TreePath path = getCurrentPath(); path != null; path = path.getParentPath()) {
            if (path.getLeaf() instanceof MethodTree method) {
                return method;
            }
        }
        return null;
    }

    private Element elementAround() {
        for (TreePath path = getCurrentPath(); path != null; path = path.getParentPath()) {
            if (path.getLeaf() instanceof MethodTree) {
                return trees.getElement(path);
            }
        }
        return null;
    }

    @Override
    public Void visitImport(ImportTree tree, Void nothing) {
        keeps("an import of what the rules list", tree, IMPORTS.contains(tree.getQualifiedIdentifier().toString()));
        return null;
    }

    @Override
    public Void visitClass(ClassTree tree, Void nothing) {
        Element element = here();
        classes.add(element);
        boolean inside = element.getEnclosingElement().getKind().isClass();
        keeps("no class in a method", tree, inside || element.getSimpleName().contentEquals("GuardedGrammar"));
        keeps("a class inside is static", tree, !inside || element.getModifiers().contains(Modifier.STATIC));
        keeps("a class inside is not public", tree, !inside || !element.getModifiers().contains(Modifier.PUBLIC));
        long fields = element.getEnclosedElements().stream().filter(member -> member.getKind() == ElementKind.FIELD
                && !member.getModifiers().contains(Modifier.STATIC)).count();
        keeps("some twenty fields", tree, fields <= MOST_FIELDS);
        for (Tree member : tree.getMembers()) {
            keeps("no initialiser block", member, !(member instanceof BlockTree));
        }
        return super.visitClass(tree, nothing);
    }

    @Override
    public Void visitVariable(VariableTree tree, Void nothing) {
        Set<Modifier> modifiers = here().getModifiers();
        keeps("a static field is final", tree,
                !modifiers.contains(Modifier.STATIC) || modifiers.contains(Modifier.FINAL));
        return super.visitVariable(tree, nothing);
    }

    @Override
    public Void visitMethod(MethodTree tree, Void nothing) {
        String name = tree.getName().toString();
        Set<Modifier> modifiers = here().getModifiers();
        if (modifiers.contains(Modifier.PUBLIC) && here().getKind() == ElementKind.METHOD) {
            face.add(name);
        } else if (modifiers.contains(Modifier.PRIVATE)) {
            hidden.add(name);
        }
        calls.computeIfAbsent(here(), each -> new LinkedHashSet<>());
        keeps("seven parameters at most", tree, tree.getParameters().size() <= MOST_PARAMETERS);
        keeps("some sixty lines", tree, tree.getBody() == null || lastLine(tree) - line(tree) < MOST_LINES);
        keeps("no equals, hashCode or toString", tree, !Set.of("equals", "hashCode", "toString").contains(name));
        return super.visitMethod(tree, nothing);
    }

    @Override
    public Void visitMethodInvocation(MethodInvocationTree tree, Void nothing) {
        Element called = here();
        if (called.getKind() == ElementKind.METHOD) {
            Element owner = called.getEnclosingElement();
            String of = owner.getSimpleName().toString();
            if (trees.getTree(owner) == null) {
                keeps("a call of what the rules list: " + of + "." + called.getSimpleName(), tree,
                        LIBRARY.getOrDefault(of, Set.of()).contains(called.getSimpleName().toString()));
            } else {
                calls.computeIfAbsent(elementAround(), each -> new LinkedHashSet<>()).add(called);
            }
        }
        return super.visitMethodInvocation(tree, nothing);
    }

    @Override
    public Void visitNewClass(NewClassTree tree, Void nothing) {
        Element made = here().getEnclosingElement();
        String name = made.getSimpleName().toString();
        boolean thrown = getCurrentPath().getParentPath().getLeaf() instanceof ThrowTree;
        keeps("a new object of a class that the rules list: " + name, tree,
                trees.getTree(made) != null || MADE.contains(name) || thrown && THROWN.contains(name));
        return super.visitNewClass(tree, nothing);
    }

    @Override
    public Void visitThrow(ThrowTree tree, Void nothing) {
        boolean plain = tree.getExpression() instanceof NewClassTree made && made.getClassBody() == null
                && made.getArguments().stream().allMatch(argument -> argument instanceof LiteralTree);
        keeps("a throw of a new exception with a written text or none", tree, plain);
        MethodTree around = methodAround();
        keeps("no throw in a constructor", tree, around != null && around.getReturnType() != null);
        return super.visitThrow(tree, nothing);
    }

    @Override
    public Void visitTry(TryTree tree, Void nothing) {
        keeps("no finally, no resources", tree, tree.getFinallyBlock() == null && tree.getResources().isEmpty());
        return super.visitTry(tree, nothing);
    }

    @Override
    public Void visitBinary(BinaryTree tree, Void nothing) {
        boolean joins = tree.getKind() == Tree.Kind.PLUS
                && trees.getTypeMirror(getCurrentPath()).getKind() == TypeKind.DECLARED;
        keeps("texts are not joined by +", tree, !joins);
        if (tree.getKind() == Tree.Kind.DIVIDE || tree.getKind() == Tree.Kind.REMAINDER) {
            keeps("a divisor that is not 0", tree, tree.getRightOperand() instanceof LiteralTree divisor
                    && divisor.getValue() instanceof Integer number && number != 0);
        }
        return super.visitBinary(tree, nothing);
    }

    @Override
    public Void visitForLoop(ForLoopTree tree, Void nothing) {
        keepsEnd(tree, tree.getCondition());
        return super.visitForLoop(tree, nothing);
    }

    @Override
    public Void visitWhileLoop(WhileLoopTree tree, Void nothing) {
        keepsEnd(tree, tree.getCondition());
        return super.visitWhileLoop(tree, nothing);
    }

    @Override
    public Void visitDoWhileLoop(DoWhileLoopTree tree, Void nothing) {
        keepsEnd(tree, tree.getCondition());
        return super.visitDoWhileLoop(tree, nothing);
    }

    // Each loop of the program holds a counter against a bound.
    private void keepsEnd(Tree loop, ExpressionTree condition) {
        keeps("a loop with a bound", loop, condition != null && condition.toString().matches("(?s).*[<>].*"));
    }

    @Override
    public Void visitLambdaExpression(LambdaExpressionTree tree, Void nothing) {
        keeps("no lambda", tree, false);
        return null;
    }

    @Override
    public Void visitMemberReference(MemberReferenceTree tree, Void nothing) {
        keeps("no method reference", tree, false);
        return null;
    }

    @Override
    public Void visitSynchronized(SynchronizedTree tree, Void nothing) {
        keeps("no synchronized", tree, false);
        return null;
    }

    @Override
    public Void visitAssert(AssertTree tree, Void nothing) {
        keeps("no assert", tree, false);
        return null;
    }
}
