import com.sun.source.tree.ClassTree;
import com.sun.source.tree.CompilationUnitTree;
import com.sun.source.tree.DoWhileLoopTree;
import com.sun.source.tree.ExpressionTree;
import com.sun.source.tree.ForLoopTree;
import com.sun.source.tree.LambdaExpressionTree;
import com.sun.source.tree.LiteralTree;
import com.sun.source.tree.MemberReferenceTree;
import com.sun.source.tree.MethodInvocationTree;
import com.sun.source.tree.MethodTree;
import com.sun.source.tree.NewArrayTree;
import com.sun.source.tree.ThrowTree;
import com.sun.source.tree.Tree;
import com.sun.source.tree.TryTree;
import com.sun.source.tree.VariableTree;
import com.sun.source.tree.WhileLoopTree;
import com.sun.source.util.JavacTask;
import com.sun.source.util.TreePathScanner;
import com.sun.source.util.Trees;
import java.io.IOException;
import java.nio.file.Path;
import java.util.ArrayList;
import java.util.HashMap;
import java.util.HashSet;
import java.util.List;
import java.util.Map;
import java.util.Set;
import java.util.TreeSet;
import javax.lang.model.element.Element;
import javax.lang.model.element.Modifier;
import javax.tools.JavaCompiler;
import javax.tools.StandardJavaFileManager;
import javax.tools.ToolProvider;

/** The rules of LANGUAGE.md that the compiler's own tree of the class can tell; what the face is, FaceTest tells. */
public final class LanguageTest extends TreePathScanner<Void, Void> {
    private static final int MOST_LINES = 60;
    private static final int MOST_PARAMETERS = 7;
    private static final int MOST_DEEP = 8;
    /** What is called of rule 4's library; another call of that list may be added here. */
    private static final Set<String> LIBRARY = Set.of("java.lang.String.indexOf", "java.lang.Math.min");
    /** Rule 8: it carries its depth, the place on the stone. */
    private static final Set<String> RECURSIVE = Set.of("LetterSums.Slab.fillFrom");

    private static int checked = 0;
    private static int wrong = 0;

    private final Trees trees;
    private final CompilationUnitTree unit;
    private final Map<String, Set<String>> calls = new HashMap<>();
    private final Set<String> publicNames = new HashSet<>();
    private final List<String> otherNames = new ArrayList<>();
    private String method = "";

    private LanguageTest(Trees trees, CompilationUnitTree unit) {
        this.trees = trees;
        this.unit = unit;
    }

    private static void holds(int rule, String what, boolean is) {
        checked++;
        if (!is) {
            wrong++;
            System.out.println("rule " + rule + ": not so: " + what);
        }
    }

    public static void main(String[] args) throws IOException {
        JavaCompiler compiler = ToolProvider.getSystemJavaCompiler();
        StandardJavaFileManager files = compiler.getStandardFileManager(null, null, null);
        JavacTask task = (JavacTask) compiler.getTask(null, files, null, List.of("-proc:none"), null,
            files.getJavaFileObjects(Path.of("src/main/java/LetterSums.java")));
        CompilationUnitTree unit = task.parse().iterator().next();
        task.analyze();
        LanguageTest test = new LanguageTest(Trees.instance(task), unit);
        holds(1, "no package line", unit.getPackageName() == null);
        holds(1, "one class in the file", unit.getTypeDecls().size() == 1);
        test.scan(unit, null);
        test.checkNames();
        test.checkDepths();
        System.out.println("LanguageTest: " + checked + " rules looked up, " + wrong + " do not hold");
        if (wrong != 0) {
            System.exit(1);
        }
    }

    // ---- what the tree has

    private Element element() {
        return trees.getElement(getCurrentPath());
    }

    private static String nameOf(Element e) {
        return e.getEnclosingElement() + "." + e.getSimpleName();
    }

    private long lineOf(long position) {
        return unit.getLineMap().getLineNumber(position);
    }

    @Override
    public Void visitMethod(MethodTree tree, Void none) {
        Element e = element();
        String name = nameOf(e);
        long start = trees.getSourcePositions().getStartPosition(unit, tree);
        long end = trees.getSourcePositions().getEndPosition(unit, tree);
        boolean written = end > start;
        holds(11, name + " is short", !written || lineOf(end) - lineOf(start) < MOST_LINES);
        holds(11, name + " takes few", tree.getParameters().size() <= MOST_PARAMETERS);
        if (e.getModifiers().contains(Modifier.PUBLIC)) {
            publicNames.add(e.getSimpleName().toString());
        } else {
            otherNames.add(e.getSimpleName().toString());
        }
        String ahead = method;
        method = name;
        holds(11, name + " is told once, so that calls of it are told by its name", !calls.containsKey(name));
        calls.put(name, new TreeSet<>());
        super.visitMethod(tree, none);
        method = ahead;
        return null;
    }

    @Override
    public Void visitMethodInvocation(MethodInvocationTree tree, Void none) {
        Element e = element();
        String name = nameOf(e);
        if (name.startsWith("LetterSums")) {
            holds(11, name + " is called in a method, not for a field", !method.isEmpty());
            calls.computeIfAbsent(method, m -> new TreeSet<>()).add(name);
        } else if (!e.getSimpleName().contentEquals("<init>")) {
            holds(4, name + " is of the library", LIBRARY.contains(name));
        }
        return super.visitMethodInvocation(tree, none);
    }

    @Override
    public Void visitClass(ClassTree tree, Void none) {
        Element e = element();
        boolean outer = e.getSimpleName().contentEquals("LetterSums");
        holds(2, e + " is the public one, or stands in it and is static", outer
            || e.getEnclosingElement().getSimpleName().contentEquals("LetterSums") && e.getModifiers().contains(Modifier.STATIC));
        return super.visitClass(tree, none);
    }

    @Override
    public Void visitVariable(VariableTree tree, Void none) {
        Element e = element();
        if (e != null && e.getModifiers().contains(Modifier.STATIC)) {
            holds(5, e + " is final", e.getModifiers().contains(Modifier.FINAL));
            holds(5, e + " is a constant, or an array written out", isConstant(tree));
        }
        return super.visitVariable(tree, none);
    }

    private static boolean isConstant(VariableTree tree) {
        if (tree.getInitializer() instanceof NewArrayTree array) {
            return array.getInitializers() != null && tree.getType().toString().matches("(int|long|char|byte)\\[\\]");
        }
        return tree.getType().toString().matches("int|long|boolean|char|String");
    }

    // ---- what it must not have

    @Override
    public Void visitLambdaExpression(LambdaExpressionTree tree, Void none) {
        holds(2, "no lambda", false);
        return super.visitLambdaExpression(tree, none);
    }

    @Override
    public Void visitMemberReference(MemberReferenceTree tree, Void none) {
        holds(2, "no method reference", false);
        return super.visitMemberReference(tree, none);
    }

    @Override
    public Void visitTry(TryTree tree, Void none) {
        holds(6, "the document wants no exception: no try", false);
        return super.visitTry(tree, none);
    }

    @Override
    public Void visitThrow(ThrowTree tree, Void none) {
        holds(6, "the document wants no exception: no throw", false);
        return super.visitThrow(tree, none);
    }

    @Override
    public Void visitForLoop(ForLoopTree tree, Void none) {
        hasBound(tree.getCondition());
        return super.visitForLoop(tree, none);
    }

    @Override
    public Void visitWhileLoop(WhileLoopTree tree, Void none) {
        hasBound(tree.getCondition());
        return super.visitWhileLoop(tree, none);
    }

    @Override
    public Void visitDoWhileLoop(DoWhileLoopTree tree, Void none) {
        hasBound(tree.getCondition());
        return super.visitDoWhileLoop(tree, none);
    }

    private void hasBound(ExpressionTree condition) {
        boolean always = condition == null || condition.toString().matches("\\(?true\\)?")
            || condition instanceof LiteralTree || condition.getKind() == Tree.Kind.BOOLEAN_LITERAL;
        holds(9, "a loop of " + method + " compares a counter: " + condition,
            !always && condition.toString().matches("(?s).*(<|>|<=|>=).*"));
    }

    // ---- what the methods call

    private void checkNames() {
        for (String name : otherNames) {
            holds(1, name + " is no name of a public one", name.equals("<init>") || !publicNames.contains(name));
        }
        holds(1, "37 calls and the constructor are public", publicNames.size() == 38);
    }

    private void checkDepths() {
        Map<String, Integer> depths = new HashMap<>();
        int deepest = 0;
        for (String name : calls.keySet()) {
            deepest = Math.max(deepest, depthOf(name, new ArrayList<>(), depths));
        }
        holds(11, "calls go " + deepest + " deep", deepest <= MOST_DEEP);
    }

    private int depthOf(String name, List<String> open, Map<String, Integer> depths) {
        if (depths.containsKey(name)) {
            return depths.get(name);
        }
        open.add(name);
        int below = 0;
        for (String called : calls.getOrDefault(name, Set.of())) {
            if (open.contains(called)) {
                holds(8, called + " calls itself, as is known", called.equals(name) && RECURSIVE.contains(called));
            } else {
                below = Math.max(below, depthOf(called, open, depths));
            }
        }
        open.remove(open.size() - 1);
        depths.put(name, below + 1);
        return below + 1;
    }
}
