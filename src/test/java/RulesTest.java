import com.sun.source.tree.ClassTree;
import com.sun.source.tree.CompilationUnitTree;
import com.sun.source.tree.ExpressionTree;
import com.sun.source.tree.IdentifierTree;
import com.sun.source.tree.ImportTree;
import com.sun.source.tree.MemberSelectTree;
import com.sun.source.tree.MethodInvocationTree;
import com.sun.source.tree.MethodTree;
import com.sun.source.tree.Tree;
import com.sun.source.tree.VariableTree;
import com.sun.source.util.JavacTask;
import com.sun.source.util.SourcePositions;
import com.sun.source.util.TreePathScanner;
import com.sun.source.util.Trees;
import java.nio.file.Path;
import java.util.EnumSet;
import java.util.List;
import java.util.Map;
import java.util.Set;
import java.util.TreeMap;
import java.util.TreeSet;
import javax.lang.model.element.Modifier;
import javax.tools.JavaCompiler;
import javax.tools.StandardJavaFileManager;
import javax.tools.ToolProvider;

/** Rules of LANGUAGE.md that can be seen in the tree of the class: 2, 4, 5, 6 and 11. */
public final class RulesTest extends TreePathScanner<Void, String> {
    private static final Checks C = new Checks("RulesTest");
    private static final Set<Tree.Kind> RULED_OUT = EnumSet.of(Tree.Kind.LAMBDA_EXPRESSION,
            Tree.Kind.MEMBER_REFERENCE, Tree.Kind.TRY, Tree.Kind.SYNCHRONIZED, Tree.Kind.ASSERT,
            Tree.Kind.SWITCH_EXPRESSION);
    // Of rule 4, what the class uses; a new name belongs here only if the rule has it.
    private static final Set<String> LIBRARY = Set.of("length", "charAt", "max", "min", "bitCount");

    private final SourcePositions positions;
    private final CompilationUnitTree unit;
    // The calls of each method by its name: no name stands for two methods in the class.
    private final Map<String, Set<String>> callsOf = new TreeMap<>();
    private final Set<String> face = new TreeSet<>();
    private int classes = 0;

    private RulesTest(SourcePositions positions, CompilationUnitTree unit) {
        this.positions = positions;
        this.unit = unit;
    }

    public static void main(String[] args) throws Exception {
        JavaCompiler javac = ToolProvider.getSystemJavaCompiler();
        try (StandardJavaFileManager files = javac.getStandardFileManager(null, null, null)) {
            JavacTask task = (JavacTask) javac.getTask(null, files, null, List.of("--release", "17"), null,
                    files.getJavaFileObjects(Path.of("src/main/java/GraftQuarrel.java")));
            for (CompilationUnitTree unit : task.parse()) {
                RulesTest rules = new RulesTest(Trees.instance(task).getSourcePositions(), unit);
                rules.scan(unit, "");
                rules.judge();
            }
        }
        C.end();
    }

    @Override
    public Void scan(Tree tree, String method) {
        if (tree != null && RULED_OUT.contains(tree.getKind())) {
            C.is("line " + line(positions.getStartPosition(unit, tree)) + " has " + tree.getKind(), true, false);
        }
        return super.scan(tree, method);
    }

    @Override
    public Void visitImport(ImportTree tree, String method) {
        String name = tree.getQualifiedIdentifier().toString();
        C.is("imports " + name, name.equals("java.util.NoSuchElementException"), true);
        return null;
    }

    @Override
    public Void visitClass(ClassTree tree, String method) {
        classes++;
        int fields = 0;
        for (Tree member : tree.getMembers()) {
            if (member instanceof VariableTree field) {
                Set<Modifier> flags = field.getModifiers().getFlags();
                boolean constant = flags.contains(Modifier.STATIC);
                fields += constant ? 0 : 1;
                C.is(field.getName() + " is final if static", !constant || flags.contains(Modifier.FINAL), true);
            }
            C.is(tree.getSimpleName() + " has a block of its own", member.getKind() == Tree.Kind.BLOCK, false);
        }
        C.is(tree.getSimpleName() + " has some twenty fields: " + fields, fields <= 20, true);
        return super.visitClass(tree, method);
    }

    @Override
    public Void visitMethod(MethodTree tree, String outer) {
        String name = tree.getName().toString();
        C.is(name + " has " + tree.getParameters().size() + " parameters", tree.getParameters().size() <= 7, true);
        long lines = line(positions.getEndPosition(unit, tree)) - line(positions.getStartPosition(unit, tree)) + 1;
        C.is(name + " has " + lines + " lines", lines <= 60, true);
        C.is(name + " is told twice", callsOf.put(name, new TreeSet<>()) != null, false);
        if (tree.getModifiers().getFlags().contains(Modifier.PUBLIC)) {
            face.add(name);
        }
        return super.visitMethod(tree, name);
    }

    @Override
    public Void visitMethodInvocation(MethodInvocationTree tree, String method) {
        ExpressionTree called = tree.getMethodSelect();
        // A field's first value may call too: such calls stand under the empty name.
        Set<String> calls = callsOf.computeIfAbsent(method, none -> new TreeSet<>());
        if (called instanceof IdentifierTree own) {
            calls.add(own.getName().toString());
        } else if (called instanceof MemberSelectTree of) {
            calls.add(of.getIdentifier().toString());
        }
        return super.visitMethodInvocation(tree, method);
    }

    private long line(long position) {
        return unit.getLineMap().getLineNumber(position);
    }

    private void judge() {
        C.is("the file has some twelve classes: " + classes, classes <= 12, true);
        for (Map.Entry<String, Set<String>> calls : callsOf.entrySet()) {
            for (String called : calls.getValue()) {
                boolean known = callsOf.containsKey(called) || LIBRARY.contains(called);
                C.is(calls.getKey() + " calls " + called + " of the library", known, true);
                C.is(calls.getKey() + " calls " + called + " of the face", face.contains(called), false);
            }
        }
        for (String call : face) {
            int deep = depth(call, new TreeSet<>());
            C.is(call + " goes " + deep + " calls deep", deep <= 8, true);
        }
        C.is("methods that call themselves are one", callsOf.entrySet().stream()
                .filter(e -> e.getValue().contains(e.getKey())).count(), 1);
    }

    /** How deep a call goes, its own level too; one that stands open already counts nothing. */
    private int depth(String method, Set<String> open) {
        if (!open.add(method)) {
            return 0;
        }
        int deepest = 0;
        for (String called : callsOf.getOrDefault(method, Set.of())) {
            deepest = Math.max(deepest, depth(called, open));
        }
        open.remove(method);
        return deepest + 1;
    }
}
