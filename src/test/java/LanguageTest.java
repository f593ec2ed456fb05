import com.sun.source.tree.AssertTree;
import com.sun.source.tree.BinaryTree;
import com.sun.source.tree.ClassTree;
import com.sun.source.tree.CompilationUnitTree;
import com.sun.source.tree.EnhancedForLoopTree;
import com.sun.source.tree.LambdaExpressionTree;
import com.sun.source.tree.LineMap;
import com.sun.source.tree.MemberReferenceTree;
import com.sun.source.tree.MethodInvocationTree;
import com.sun.source.tree.MethodTree;
import com.sun.source.tree.NewClassTree;
import com.sun.source.tree.SynchronizedTree;
import com.sun.source.tree.ThrowTree;
import com.sun.source.tree.Tree;
import com.sun.source.tree.TryTree;
import com.sun.source.tree.TypeCastTree;
import com.sun.source.tree.VariableTree;
import com.sun.source.util.JavacTask;
import com.sun.source.util.SourcePositions;
import com.sun.source.util.TreePath;
import com.sun.source.util.TreePathScanner;
import com.sun.source.util.Trees;
import java.io.File;
import java.io.IOException;
import java.util.HashMap;
import java.util.HashSet;
import java.util.List;
import java.util.Map;
import java.util.Set;
import java.util.TreeSet;
import javax.lang.model.element.Element;
import javax.lang.model.element.ElementKind;
import javax.lang.model.element.ExecutableElement;
import javax.lang.model.element.Modifier;
import javax.lang.model.type.TypeMirror;
import javax.tools.JavaCompiler;
import javax.tools.StandardJavaFileManager;
import javax.tools.ToolProvider;

/** The source keeps to what of ../shared/LANGUAGE.md the compiler's own trees can show. */
public final class LanguageTest extends TreePathScanner<Void, Void> {
    private static final int DEEPEST = 8;
    private static final int MOST_LINES = 60;
    private static final int MOST_PARAMETERS = 7;
    private static final int MOST_FIELDS = 20;
    private static final int MOST_CLASSES = 12;

    private static final Set<String> LIBRARY = Set.of(
        "java.lang.Math.max", "java.lang.Math.min", "java.lang.Math.abs", "java.lang.Integer.bitCount", "java.lang.System.arraycopy",
        "java.lang.String.charAt", "java.lang.Object.<init>",
        "java.util.Arrays.fill", "java.util.Arrays.copyOf", "java.util.ArrayList.<init>", "java.util.ArrayList.add", "java.util.ArrayList.get",
        "java.util.ArrayList.size", "java.util.ArrayList.clear");
    private static final Set<String> TYPES = Set.of("int", "long", "boolean", "int[]", "long[]", "boolean[]", "java.lang.String");

    private final Trees trees;
    private final SourcePositions positions;
    private final Map<String, Set<String>> calls = new HashMap<>();
    private final Set<String> ofLibrary = new TreeSet<>();
    private final Set<String> open = new HashSet<>();
    private CompilationUnitTree unit;
    private String caller = "";
    private int classes;

    private LanguageTest(Trees trees) {
        this.trees = trees;
        positions = trees.getSourcePositions();
    }

    public static void main(String[] args) throws IOException {
        JavaCompiler compiler = ToolProvider.getSystemJavaCompiler();
        StandardJavaFileManager files = compiler.getStandardFileManager(null, null, null);
        JavacTask task = (JavacTask) compiler.getTask(null, files, null, List.of("--release", "17", "-proc:none"), null,
            files.getJavaFileObjects(new File("src/main/java/MuseumFlight.java")));
        LanguageTest test = new LanguageTest(Trees.instance(task));
        Iterable<? extends CompilationUnitTree> units = task.parse();
        task.analyze();
        for (CompilationUnitTree one : units) {
            test.unit = one;
            test.scan(one, null);
        }
        test.judgeCalls();
        Check.end();
    }

    private void judgeCalls() {
        Check.holds("some twelve classes: " + classes, classes <= MOST_CLASSES);
        Check.holds("no more of the library: " + ofLibrary, LIBRARY.containsAll(ofLibrary));
        int deepest = 0;
        for (String method : calls.keySet()) {
            int depth = depthOf(method);
            Check.holds("at most eight deep: " + method + " " + depth, depth <= DEEPEST);
            deepest = Math.max(deepest, depth);
        }
        // A scan that saw nothing would find nothing wrong.
        Check.holds("calls were followed, " + deepest + " deep", deepest >= 5 && calls.size() > 100);
    }

    /** How many calls of the class's own methods stand open at most, this one with them. */
    private int depthOf(String method) {
        Check.holds("no recursion: " + method, open.add(method));
        int depth = 0;
        if (open.size() < 50) {
            for (String next : calls.getOrDefault(method, Set.of())) {
                depth = Math.max(depth, depthOf(next));
            }
        }
        open.remove(method);
        return depth + 1;
    }

    private void never(String what, Tree tree) {
        Check.holds("line " + lineOf(positions.getStartPosition(unit, tree)) + ": no " + what, false);
    }

    private long lineOf(long position) {
        LineMap lines = unit.getLineMap();
        return lines.getLineNumber(position);
    }

    private Element elementHere() {
        return trees.getElement(getCurrentPath());
    }

    private static String nameOf(Element method) {
        return method.getEnclosingElement() + "." + method;
    }

    private void note(Element called) {
        if (called == null || called.getKind() != ElementKind.METHOD && called.getKind() != ElementKind.CONSTRUCTOR) {
            Check.holds("a method is called in " + caller, false);
            return;
        }
        if (called.getEnclosingElement().toString().startsWith("MuseumFlight")) {
            calls.computeIfAbsent(caller, any -> new TreeSet<>()).add(nameOf(called));
        } else {
            ofLibrary.add(called.getEnclosingElement() + "." + ((ExecutableElement) called).getSimpleName());
        }
    }

    @Override
    public Void visitClass(ClassTree tree, Void none) {
        classes++;
        Element one = elementHere();
        boolean outer = one.getSimpleName().contentEquals("MuseumFlight");
        Set<Modifier> modifiers = one.getModifiers();
        Check.holds("a class: " + one, one.getKind() == ElementKind.CLASS);
        Check.holds("shown or not: " + one, modifiers.contains(Modifier.PUBLIC) == outer);
        Check.holds("static inside: " + one, modifiers.contains(Modifier.STATIC) != outer);
        int fields = 0;
        for (Element member : one.getEnclosedElements()) {
            if (member.getKind() == ElementKind.FIELD && !member.getModifiers().contains(Modifier.STATIC)) {
                fields++;
            }
        }
        Check.holds("some twenty fields: " + one + " " + fields, fields <= MOST_FIELDS);
        return super.visitClass(tree, none);
    }

    @Override
    public Void visitMethod(MethodTree tree, Void none) {
        caller = nameOf(elementHere());
        calls.computeIfAbsent(caller, any -> new TreeSet<>());
        Check.holds("at most seven parameters: " + caller, tree.getParameters().size() <= MOST_PARAMETERS);
        long from = positions.getStartPosition(unit, tree);
        long to = positions.getEndPosition(unit, tree);
        if (from >= 0 && to >= 0) {
            long lines = lineOf(to) - lineOf(from) + 1;
            Check.holds("some sixty lines: " + caller + " " + lines, lines <= MOST_LINES);
        }
        return super.visitMethod(tree, none);
    }

    @Override
    public Void visitVariable(VariableTree tree, Void none) {
        Element one = elementHere();
        Set<Modifier> modifiers = one.getModifiers();
        Check.holds("no static state: " + one, !modifiers.contains(Modifier.STATIC) || modifiers.contains(Modifier.FINAL));
        Check.holds("a type that may be: " + one.asType() + " " + one, mayBe(one.asType()));
        if (tree.getType() == null) {
            never("var", tree);
        }
        return super.visitVariable(tree, none);
    }

    private static boolean mayBe(TypeMirror type) {
        String name = type.toString();
        return TYPES.contains(name) || name.matches("MuseumFlight\\.\\w+(\\[\\])?") || name.matches("java\\.util\\.ArrayList<MuseumFlight\\.\\w+>");
    }

    @Override
    public Void visitMethodInvocation(MethodInvocationTree tree, Void none) {
        // An implicit super() has no place in the source and calls Object's constructor alone.
        note(elementHere());
        return super.visitMethodInvocation(tree, none);
    }

    @Override
    public Void visitNewClass(NewClassTree tree, Void none) {
        note(elementHere());
        if (tree.getClassBody() != null) {
            never("class without a name", tree);
        }
        return super.visitNewClass(tree, none);
    }

    @Override
    public Void visitBinary(BinaryTree tree, Void none) {
        TypeMirror type = trees.getTypeMirror(getCurrentPath());
        if (type != null && type.toString().equals("java.lang.String")) {
            never("joining of texts by +", tree);
        }
        boolean divides = tree.getKind() == Tree.Kind.DIVIDE || tree.getKind() == Tree.Kind.REMAINDER;
        Check.holds("line " + lineOf(positions.getStartPosition(unit, tree)) + ": a divisor that is tested in its own line",
            !divides || testedDivisor(tree));
        return super.visitBinary(tree, none);
    }

    /** Each division in the class stands in a ?: that looks whether its divisor is above 0. */
    private boolean testedDivisor(BinaryTree tree) {
        for (TreePath path = getCurrentPath(); path != null; path = path.getParentPath()) {
            if (path.getLeaf().getKind() == Tree.Kind.CONDITIONAL_EXPRESSION) {
                return path.getLeaf().toString().contains(tree.getRightOperand() + " > 0");
            }
        }
        return false;
    }

    @Override
    public Void visitTypeCast(TypeCastTree tree, Void none) {
        TypeMirror type = trees.getTypeMirror(new TreePath(getCurrentPath(), tree.getType()));
        Check.holds("casts of numbers alone: " + tree, type != null && type.getKind().isPrimitive());
        return super.visitTypeCast(tree, none);
    }

    @Override
    public Void visitThrow(ThrowTree tree, Void none) {
        never("throw", tree);
        return null;
    }

    @Override
    public Void visitTry(TryTree tree, Void none) {
        never("try", tree);
        return null;
    }

    @Override
    public Void visitAssert(AssertTree tree, Void none) {
        never("assert", tree);
        return null;
    }

    @Override
    public Void visitSynchronized(SynchronizedTree tree, Void none) {
        never("synchronized", tree);
        return null;
    }

    @Override
    public Void visitLambdaExpression(LambdaExpressionTree tree, Void none) {
        never("lambda", tree);
        return null;
    }

    @Override
    public Void visitMemberReference(MemberReferenceTree tree, Void none) {
        never("method reference", tree);
        return null;
    }

    @Override
    public Void visitEnhancedForLoop(EnhancedForLoopTree tree, Void none) {
        never("iterator", tree);
        return null;
    }
}
