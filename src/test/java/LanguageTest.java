import com.sun.source.tree.BinaryTree;
import com.sun.source.tree.ClassTree;
import com.sun.source.tree.CompilationUnitTree;
import com.sun.source.tree.ImportTree;
import com.sun.source.tree.LambdaExpressionTree;
import com.sun.source.tree.MemberReferenceTree;
import com.sun.source.tree.MethodInvocationTree;
import com.sun.source.tree.MethodTree;
import com.sun.source.tree.NewArrayTree;
import com.sun.source.tree.NewClassTree;
import com.sun.source.tree.ThrowTree;
import com.sun.source.tree.Tree;
import com.sun.source.tree.TryTree;
import com.sun.source.tree.VariableTree;
import com.sun.source.util.JavacTask;
import com.sun.source.util.TreePath;
import com.sun.source.util.TreePathScanner;
import com.sun.source.util.Trees;
import java.io.File;
import java.util.HashMap;
import java.util.HashSet;
import java.util.List;
import java.util.Map;
import java.util.Set;
import java.util.TreeSet;
import javax.lang.model.element.Element;
import javax.lang.model.element.ExecutableElement;
import javax.lang.model.element.Modifier;
import javax.lang.model.element.TypeElement;
import javax.lang.model.type.TypeMirror;
import javax.tools.JavaCompiler;
import javax.tools.StandardJavaFileManager;
import javax.tools.ToolProvider;

/** What of LANGUAGE.md can be seen in the source: names, sizes, the library, how deep calls go, what is made when. */
public final class LanguageTest extends TreePathScanner<Void, Void> {
    private static final Set<String> LIBRARY = Set.of("String.length", "String.charAt", "Math.max", "Math.min",
        "Math.abs", "Integer.bitCount", "Integer.highestOneBit", "Integer.numberOfTrailingZeros", "System.arraycopy");
    private static final Set<String> THROWN = Set.of("IllegalArgumentException", "NoSuchElementException");

    private final Trees trees;
    private final CompilationUnitTree unit;
    private final Set<String> publicNames = new TreeSet<>();
    private final Set<String> otherNames = new TreeSet<>();
    private final Map<Element, Set<Element>> calls = new HashMap<>();
    private int classes;

    private LanguageTest(Trees trees, CompilationUnitTree unit) {
        this.trees = trees;
        this.unit = unit;
    }

    public static void main(String[] args) throws Exception {
        JavaCompiler compiler = ToolProvider.getSystemJavaCompiler();
        StandardJavaFileManager files = compiler.getStandardFileManager(null, null, null);
        JavacTask task = (JavacTask) compiler.getTask(null, files, null, List.of("-proc:none"), null,
            files.getJavaFileObjects(new File("src/main/java/BaizeDoor.java")));
        CompilationUnitTree unit = task.parse().iterator().next();
        task.analyze();
        LanguageTest test = new LanguageTest(Trees.instance(task), unit);
        test.scan(unit, null);
        test.sums();
        Desk.end();
    }

    private void must(String what, boolean holds) {
        Desk.due(what, holds ? 1 : 0, 1);
    }

    private Element element(Tree tree) {
        return trees.getElement(TreePath.getPath(unit, tree));
    }

    private long line(long position) {
        return unit.getLineMap().getLineNumber(position);
    }

    private Tree around(Class<? extends Tree> kind) {
        for (TreePath p = getCurrentPath().getParentPath(); p != null; p = p.getParentPath()) {
            if (kind.isInstance(p.getLeaf())) return p.getLeaf();
        }
        return null;
    }

    private void sums() {
        must("some twelve classes: " + classes, classes <= 12);
        for (String name : otherNames) {
            must("no other method bears the public name " + name, !publicNames.contains(name));
        }
        int deepest = 0;
        for (Element method : calls.keySet()) deepest = Math.max(deepest, depth(method, new HashSet<>()));
        must("calls go at most eight deep, recursion apart: " + deepest, deepest <= 8);
    }

    /** The longest way down in which no method stands twice but those that call one another. */
    private int depth(Element method, Set<Element> above) {
        int most = 0;
        above.add(method);
        for (Element called : calls.getOrDefault(method, Set.of())) {
            if (!above.contains(called) && !reaches(called, method, new HashSet<>())) {
                most = Math.max(most, depth(called, above));
            }
        }
        // Those that call one another count as one, from whichever of them one goes on.
        for (Element partner : partners(method)) {
            for (Element called : calls.getOrDefault(partner, Set.of())) {
                if (!above.contains(called) && !reaches(called, method, new HashSet<>())) {
                    most = Math.max(most, depth(called, above));
                }
            }
        }
        above.remove(method);
        return most + 1;
    }

    private Set<Element> partners(Element method) {
        Set<Element> all = new HashSet<>();
        for (Element other : calls.keySet()) {
            if (other != method && reaches(method, other, new HashSet<>()) && reaches(other, method, new HashSet<>())) {
                all.add(other);
            }
        }
        return all;
    }

    private boolean reaches(Element from, Element to, Set<Element> met) {
        for (Element called : calls.getOrDefault(from, Set.of())) {
            if (called == to || met.add(called) && reaches(called, to, met)) return true;
        }
        return false;
    }

    @Override
    public Void visitImport(ImportTree node, Void v) {
        must("import " + node, node.getQualifiedIdentifier().toString().equals("java.util.NoSuchElementException"));
        return super.visitImport(node, v);
    }

    @Override
    public Void visitClass(ClassTree node, Void v) {
        classes++;
        Set<Modifier> flags = node.getModifiers().getFlags();
        boolean outer = node.getSimpleName().contentEquals("BaizeDoor");
        boolean hidden = flags.contains(Modifier.STATIC) && flags.contains(Modifier.PRIVATE);
        must("class " + node.getSimpleName(), outer || hidden);
        int fields = 0;
        for (Tree member : node.getMembers()) {
            if (!(member instanceof VariableTree)) continue;
            Set<Modifier> f = ((VariableTree) member).getModifiers().getFlags();
            if (!f.contains(Modifier.STATIC)) fields++;
            else must("static fields are final constants: " + member, f.contains(Modifier.FINAL)
                && ((VariableTree) member).getType().toString().equals("int"));
        }
        must("some twenty fields: " + node.getSimpleName() + " " + fields, fields <= 20);
        return super.visitClass(node, v);
    }

    @Override
    public Void visitMethod(MethodTree node, Void v) {
        long from = line(trees.getSourcePositions().getStartPosition(unit, node));
        long to = line(trees.getSourcePositions().getEndPosition(unit, node));
        must("some sixty lines: " + node.getName(), to - from < 60);
        must("seven parameters: " + node.getName(), node.getParameters().size() <= 7);
        if (node.getReturnType() != null) {
            boolean open = node.getModifiers().getFlags().contains(Modifier.PUBLIC);
            (open ? publicNames : otherNames).add("" + node.getName());
        }
        calls.computeIfAbsent(element(node), e -> new HashSet<>());
        return super.visitMethod(node, v);
    }

    @Override
    public Void visitMethodInvocation(MethodInvocationTree node, Void v) {
        ExecutableElement called = (ExecutableElement) element(node);
        String owner = ((TypeElement) called.getEnclosingElement()).getQualifiedName().toString();
        Tree method = around(MethodTree.class);
        if (owner.startsWith("BaizeDoor")) {
            if (method != null) calls.computeIfAbsent(element(method), e -> new HashSet<>()).add(called);
        } else if (!called.getSimpleName().contentEquals("<init>")) {
            String name = owner.replace("java.lang.", "") + "." + called.getSimpleName();
            must("library: " + name, LIBRARY.contains(name));
        }
        return super.visitMethodInvocation(node, v);
    }

    @Override
    public Void visitNewClass(NewClassTree node, Void v) {
        boolean thrown = getCurrentPath().getParentPath().getLeaf() instanceof ThrowTree;
        if (thrown) must("throws " + node, THROWN.contains(node.getIdentifier().toString()));
        else must("made once: " + node, madeOnce());
        return super.visitNewClass(node, v);
    }

    @Override
    public Void visitNewArray(NewArrayTree node, Void v) {
        must("made once: " + node, madeOnce());
        return super.visitNewArray(node, v);
    }

    private boolean madeOnce() {
        Tree method = around(MethodTree.class);
        return method == null || ((MethodTree) method).getReturnType() == null;
    }

    @Override
    public Void visitThrow(ThrowTree node, Void v) {
        must("no throw in a constructor", ((MethodTree) around(MethodTree.class)).getReturnType() != null);
        return super.visitThrow(node, v);
    }

    @Override
    public Void visitTry(TryTree node, Void v) {
        must("nothing is caught", false);
        return super.visitTry(node, v);
    }

    @Override
    public Void visitLambdaExpression(LambdaExpressionTree node, Void v) {
        must("no lambda", false);
        return super.visitLambdaExpression(node, v);
    }

    @Override
    public Void visitMemberReference(MemberReferenceTree node, Void v) {
        must("no method reference", false);
        return super.visitMemberReference(node, v);
    }

    @Override
    public Void visitBinary(BinaryTree node, Void v) {
        TypeMirror type = trees.getTypeMirror(getCurrentPath());
        must("no text joined by +: " + node, !type.toString().equals("java.lang.String"));
        return super.visitBinary(node, v);
    }
}
