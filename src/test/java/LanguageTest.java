import com.sun.source.tree.AssertTree;
import com.sun.source.tree.ClassTree;
import com.sun.source.tree.CompilationUnitTree;
import com.sun.source.tree.ForLoopTree;
import com.sun.source.tree.ImportTree;
import com.sun.source.tree.LambdaExpressionTree;
import com.sun.source.tree.LiteralTree;
import com.sun.source.tree.MemberReferenceTree;
import com.sun.source.tree.MethodInvocationTree;
import com.sun.source.tree.MethodTree;
import com.sun.source.tree.NewArrayTree;
import com.sun.source.tree.NewClassTree;
import com.sun.source.tree.SynchronizedTree;
import com.sun.source.tree.ThrowTree;
import com.sun.source.tree.Tree;
import com.sun.source.tree.TryTree;
import com.sun.source.tree.VariableTree;
import com.sun.source.tree.WhileLoopTree;
import com.sun.source.util.JavacTask;
import com.sun.source.util.TreePath;
import com.sun.source.util.TreePathScanner;
import com.sun.source.util.Trees;
import java.io.File;
import java.lang.management.ManagementFactory;
import java.util.Arrays;
import java.util.HashMap;
import java.util.List;
import java.util.Map;
import java.util.Set;
import java.util.TreeSet;
import javax.lang.model.element.Element;
import javax.lang.model.element.ElementKind;
import javax.lang.model.element.Modifier;
import javax.tools.JavaCompiler;
import javax.tools.StandardJavaFileManager;
import javax.tools.ToolProvider;

/** What can be looked at by machine of LANGUAGE.md: the face, what is used, sizes, depth of calls, what is made. */
public final class LanguageTest extends TreePathScanner<Void, Void> {
    private static final String FACE = "feed parish fault where spans span awake lots say said strikes judge why"
            + " agrees worlds can world weights having times sure surely chance likeliest greatest together possible"
            + " hiding bed sleeps ask askFor lie bars proof part nothing keep quiet strike still struck seek lot again"
            + " image restore led size trouble";
    private static final Set<String> LIBRARY = new TreeSet<>(Arrays.asList("String.length", "String.charAt",
            "Math.min", "Math.max", "Math.abs", "Integer.bitCount"));
    private static final Set<String> FACE_NAMES = new TreeSet<>(Arrays.asList(FACE.split(" ")));

    private final Trees trees;
    private final CompilationUnitTree unit;
    private final Map<String, Set<String>> calls = new HashMap<>();
    private final Map<String, Integer> depths = new HashMap<>();
    private final Set<String> faceFound = new TreeSet<>();
    private int classes = 0;

    private LanguageTest(Trees trees, CompilationUnitTree unit) {
        this.trees = trees;
        this.unit = unit;
    }

    private void rule(int number, boolean holds, Tree tree, String what) {
        if (!holds) {
            long at = trees.getSourcePositions().getStartPosition(unit, tree);
            Due.fail("rule " + number + ", line " + unit.getLineMap().getLineNumber(at) + ": " + what);
        }
    }

    private Element element() {
        return trees.getElement(getCurrentPath());
    }

    private static String nameOf(Element method) {
        return method.getEnclosingElement().getSimpleName() + "." + method.getSimpleName();
    }

    private String here() {
        for (TreePath path = getCurrentPath(); path != null; path = path.getParentPath()) {
            if (path.getLeaf() instanceof MethodTree) {
                return nameOf(trees.getElement(path));
            }
        }
        return "";
    }

    @Override
    public Void visitImport(ImportTree tree, Void v) {
        rule(4, tree.getQualifiedIdentifier().toString().equals("java.util.NoSuchElementException"), tree,
                "import " + tree.getQualifiedIdentifier());
        return null;
    }

    @Override
    public Void visitClass(ClassTree tree, Void v) {
        classes++;
        Set<Modifier> flags = tree.getModifiers().getFlags();
        if (tree.getSimpleName().contentEquals("StrikeAwake")) {
            rule(1, flags.contains(Modifier.PUBLIC) && flags.contains(Modifier.FINAL), tree, "public final");
        } else {
            rule(1, !flags.contains(Modifier.PUBLIC) && !flags.contains(Modifier.PROTECTED), tree, "class seen");
            rule(1, tree.getKind() == Tree.Kind.ENUM || flags.contains(Modifier.STATIC), tree, "class not static");
        }
        int fields = 0;
        for (Tree member : tree.getMembers()) {
            rule(5, member.getKind() != Tree.Kind.BLOCK, member, "an initialiser block");
            if (member instanceof VariableTree) {
                Set<Modifier> its = ((VariableTree) member).getModifiers().getFlags();
                if (!its.contains(Modifier.STATIC)) {
                    fields++;
                }
                rule(5, !its.contains(Modifier.STATIC) || its.contains(Modifier.FINAL), member, "static, not final");
            }
        }
        rule(11, fields <= 20, tree, tree.getSimpleName() + " has " + fields + " fields");
        return super.visitClass(tree, v);
    }

    @Override
    public Void visitVariable(VariableTree tree, Void v) {
        Element e = element();
        if (e != null && e.getKind() == ElementKind.FIELD
                && e.getEnclosingElement().getSimpleName().contentEquals("StrikeAwake")) {
            boolean isNone = tree.getName().contentEquals("NONE");
            rule(1, isNone == e.getModifiers().contains(Modifier.PUBLIC)
                    && (isNone || e.getModifiers().contains(Modifier.PRIVATE)), tree, "field " + tree.getName());
        }
        return super.visitVariable(tree, v);
    }

    @Override
    public Void visitMethod(MethodTree tree, Void v) {
        Element e = element();
        String name = tree.getName().toString();
        boolean isPublic = e.getModifiers().contains(Modifier.PUBLIC);
        boolean ofFace = e.getEnclosingElement().getSimpleName().contentEquals("StrikeAwake");
        if (ofFace && isPublic && !name.equals("<init>")) {
            faceFound.add(name);
        } else {
            rule(1, !FACE_NAMES.contains(name), tree, name + " bears a name of the face");
            rule(1, !ofFace || isPublic || e.getModifiers().contains(Modifier.PRIVATE), tree, name + " is seen");
        }
        rule(11, tree.getParameters().size() <= 7, tree, name + " takes too many");
        long from = trees.getSourcePositions().getStartPosition(unit, tree);
        long to = trees.getSourcePositions().getEndPosition(unit, tree);
        if (from >= 0 && to >= 0) {
            long lines = unit.getLineMap().getLineNumber(to) - unit.getLineMap().getLineNumber(from) + 1;
            rule(11, lines <= 60, tree, name + " has " + lines + " lines");
        }
        calls.computeIfAbsent(nameOf(e), k -> new TreeSet<>());
        return super.visitMethod(tree, v);
    }

    @Override
    public Void visitMethodInvocation(MethodInvocationTree tree, Void v) {
        Element called = element();
        String name = nameOf(called);
        String holder = called.getEnclosingElement().toString();
        if (holder.startsWith("StrikeAwake")) {
            rule(4, !name.endsWith(".values") || here().isEmpty(), tree, "values() is kept once");
            calls.computeIfAbsent(here(), k -> new TreeSet<>()).add(name);
        } else {
            rule(4, LIBRARY.contains(name) || name.equals("Object.<init>") || name.equals("Enum.<init>"), tree, name);
        }
        return super.visitMethodInvocation(tree, v);
    }

    @Override
    public Void visitNewClass(NewClassTree tree, Void v) {
        Element made = element();
        String name = made.getEnclosingElement().toString();
        String method = here();
        boolean inThrow = getCurrentPath().getParentPath().getLeaf() instanceof ThrowTree;
        rule(12, inThrow || method.isEmpty() || method.endsWith(".<init>"), tree, "a call makes " + name);
        rule(6, !inThrow || name.equals("java.util.NoSuchElementException"), tree, "throws " + name);
        return super.visitNewClass(tree, v);
    }

    @Override
    public Void visitNewArray(NewArrayTree tree, Void v) {
        rule(12, here().isEmpty() || here().endsWith(".<init>"), tree, "a call makes a row");
        return super.visitNewArray(tree, v);
    }

    @Override
    public Void visitThrow(ThrowTree tree, Void v) {
        rule(6, here().equals("StrikeAwake.led"), tree, "a throw");
        return super.visitThrow(tree, v);
    }

    @Override
    public Void visitTry(TryTree tree, Void v) {
        rule(6, false, tree, "a try");
        return null;
    }

    @Override
    public Void visitAssert(AssertTree tree, Void v) {
        rule(6, false, tree, "an assert");
        return null;
    }

    @Override
    public Void visitSynchronized(SynchronizedTree tree, Void v) {
        rule(6, false, tree, "synchronized");
        return null;
    }

    @Override
    public Void visitLambdaExpression(LambdaExpressionTree tree, Void v) {
        rule(2, false, tree, "a lambda");
        return null;
    }

    @Override
    public Void visitMemberReference(MemberReferenceTree tree, Void v) {
        rule(2, false, tree, "a method reference");
        return null;
    }

    @Override
    public Void visitForLoop(ForLoopTree tree, Void v) {
        rule(9, tree.getCondition() != null && !tree.getUpdate().isEmpty(), tree, "a loop without an end");
        return super.visitForLoop(tree, v);
    }

    @Override
    public Void visitWhileLoop(WhileLoopTree tree, Void v) {
        rule(9, tree.getCondition().toString().contains("at < length"), tree, "a loop without a bound");
        return super.visitWhileLoop(tree, v);
    }

    @Override
    public Void visitLiteral(LiteralTree tree, Void v) {
        if (tree.getValue() instanceof String) {
            rule(4, ((String) tree.getValue()).chars().allMatch(c -> c >= 1 && c <= 127), tree, "a sign");
        }
        return null;
    }

    /** How many calls stand open at once, this one counted; a call that comes back to itself is none of ours. */
    private int depth(String method, int open) {
        if (open > 40) {
            Due.fail("rule 8: recursion by " + method);
            return open;
        }
        Integer known = depths.get(method);
        if (known != null) {
            return known;
        }
        int most = 0;
        for (String called : calls.getOrDefault(method, new TreeSet<>())) {
            most = Math.max(most, depth(called, open + 1));
        }
        depths.put(method, most + 1);
        return most + 1;
    }

    private void end() {
        Due.is("rule 1: calls of the face", FACE_NAMES.size(), faceFound.size());
        Due.is("rule 1: calls of the face", true, faceFound.equals(FACE_NAMES));
        rule(11, classes <= 12, unit, classes + " classes");
        for (String method : calls.keySet()) {
            int depth = depth(method, 0);
            if (depth > 8) {
                Due.fail("rule 11: calls go " + depth + " deep from " + method);
            }
        }
    }

    private static void source(String root) throws Exception {
        JavaCompiler javac = ToolProvider.getSystemJavaCompiler();
        StandardJavaFileManager files = javac.getStandardFileManager(null, null, null);
        File file = new File(root, "src/main/java/StrikeAwake.java");
        JavacTask task = (JavacTask) javac.getTask(null, files, null, List.of("-proc:none"), null,
                files.getJavaFileObjects(file));
        CompilationUnitTree unit = task.parse().iterator().next();
        task.analyze();
        LanguageTest test = new LanguageTest(Trees.instance(task), unit);
        test.scan(unit, null);
        test.end();
    }

    // ---- what calls make

    private static long bytesMade() {
        return ((com.sun.management.ThreadMXBean) ManagementFactory.getThreadMXBean())
                .getThreadAllocatedBytes(Thread.currentThread().getId());
    }

    private static void callAll(StrikeAwake x) {
        for (int hour = 0; hour < 24; hour++) {
            x.strike(hour, 2);
            x.worlds();
            x.proof();
            x.bars(0);
            x.still(hour);
            x.ask();
            x.askFor(hour);
            x.surely(hour, true);
            x.together(0, 1);
            x.hiding(0, hour);
            x.nothing();
            x.part(hour, true);
            x.seek();
            x.image();
            x.keep();
        }
        x.parish(0);
    }

    private static void room() {
        StrikeAwake x = Texts.with("law hours 24 beside 1 off 1;person a bed 0 to 7 long 0 to 4;"
                + "person b bed 0 to 7 long 1 to 5;person c bed 2 to 4 long 1 to 1;told a 0 to 1;offer a 0 to 9");
        callAll(x);
        long before = bytesMade();
        callAll(x);
        long made = bytesMade() - before;
        Due.is("rule 12: bytes made by calls", 0, made > 4096 ? made : 0);
        before = bytesMade();
        x = new StrikeAwake();
        made = bytesMade() - before;
        // 512 of them, at eight bytes a field, would still find room
        Due.is("the room: bytes made by a new object", 0, made > 7_300_000L / 512 * 8 ? made : 0);
    }

    public static void main(String[] args) throws Exception {
        source(args.length > 0 ? args[0] : ".");
        room();
        Due.end("LanguageTest");
    }
}
