import com.sun.source.tree.ClassTree;
import com.sun.source.tree.CompilationUnitTree;
import com.sun.source.tree.ExpressionTree;
import com.sun.source.tree.IdentifierTree;
import com.sun.source.tree.LiteralTree;
import com.sun.source.tree.MemberSelectTree;
import com.sun.source.tree.MethodInvocationTree;
import com.sun.source.tree.MethodTree;
import com.sun.source.tree.NewArrayTree;
import com.sun.source.tree.NewClassTree;
import com.sun.source.tree.ThrowTree;
import com.sun.source.tree.Tree;
import com.sun.source.tree.VariableTree;
import com.sun.source.util.JavacTask;
import com.sun.source.util.SourcePositions;
import com.sun.source.util.TreePathScanner;
import com.sun.source.util.Trees;
import java.io.IOException;
import java.nio.file.Path;
import java.util.HashMap;
import java.util.HashSet;
import java.util.List;
import java.util.Map;
import java.util.Set;
import java.util.TreeSet;
import javax.lang.model.element.Modifier;
import javax.tools.JavaCompiler;
import javax.tools.StandardJavaFileManager;
import javax.tools.ToolProvider;

/**
 * The rules of LANGUAGE.md, as far as they show in the text of AreaCore.java. Where the class needs
 * less than a rule gives (no list, no text, no try), the test allows that little only. To be run at
 * the project's root.
 */
public final class RuleTest extends TreePathScanner<Void, Void> {
    private static final Path SOURCE = Path.of("src", "main", "java", "AreaCore.java");
    private static final int MOST_PARAMETERS = 7;
    private static final int MOST_LINES = 60;
    private static final int MOST_CLASSES = 12;
    private static final int MOST_FIELDS = 20;
    private static final int MOST_CALLS_DEEP = 8;
    private static final Set<String> THROWN =
        Set.of("IllegalArgumentException", "IllegalStateException", "IndexOutOfBoundsException");
    private static final Set<String> LIBRARY = Set.of("Math.floorMod");

    /** What must not stand in the text, each with the rule that is asked about it. */
    private static final Map<Tree.Kind, Integer> ABSENT = Map.of(
        Tree.Kind.IMPORT, 4, Tree.Kind.ANNOTATION, 4, Tree.Kind.LAMBDA_EXPRESSION, 2,
        Tree.Kind.MEMBER_REFERENCE, 2, Tree.Kind.TRY, 6, Tree.Kind.SYNCHRONIZED, 6,
        Tree.Kind.ASSERT, 6, Tree.Kind.INSTANCE_OF, 6, Tree.Kind.TYPE_CAST, 6);

    private final Bench bench = new Bench("LANGUAGE.md");
    private final CompilationUnitTree unit;
    private final SourcePositions positions;
    private final Set<String> classes = new TreeSet<>();
    private final Set<String> methods = new TreeSet<>();
    private final Map<String, Set<String>> calls = new HashMap<>();
    private String method = "";

    private RuleTest(CompilationUnitTree unit, SourcePositions positions) {
        this.unit = unit;
        this.positions = positions;
    }

    public static void main(String[] args) throws IOException {
        JavaCompiler compiler = ToolProvider.getSystemJavaCompiler();
        try (StandardJavaFileManager files = compiler.getStandardFileManager(null, null, null)) {
            JavacTask task = (JavacTask) compiler.getTask(null, files, null, List.of("-proc:none"),
                null, files.getJavaFileObjects(SOURCE));
            CompilationUnitTree unit = task.parse().iterator().next();
            new RuleTest(unit, Trees.instance(task).getSourcePositions()).all();
        }
        Bench.end();
    }

    private void all() {
        must(1, "one class and no package", unit.getPackageName() == null
            && unit.getTypeDecls().size() == 1);
        for (Tree type : unit.getTypeDecls()) {
            names((ClassTree) type);
        }
        must(11, "at most some twelve classes", classes.size() <= MOST_CLASSES);
        scan(unit, null);
        for (String name : methods) {
            must(11, name + " is no recursion, and few calls deep",
                deep(name, new HashSet<>()) <= MOST_CALLS_DEEP);
        }
    }

    private void must(int rule, String what, boolean holds) {
        bench.due("rule " + rule + ", " + what, holds, true);
    }

    private void names(ClassTree type) {
        classes.add(type.getSimpleName().toString());
        for (Tree member : type.getMembers()) {
            if (member instanceof ClassTree inside) {
                names(inside);
            } else if (member instanceof MethodTree one) {
                methods.add(one.getName().toString());
            }
        }
    }

    /** How many calls stand open at once below this one, with it; methods of one name count as one. */
    private int deep(String name, Set<String> open) {
        if (!open.add(name)) {
            return MOST_CALLS_DEEP + 1;
        }
        int deepest = 0;
        for (String called : calls.getOrDefault(name, Set.of())) {
            deepest = Math.max(deepest, deep(called, open));
        }
        open.remove(name);
        return deepest + 1;
    }

    private long line(long position) {
        return unit.getLineMap().getLineNumber(position);
    }

    @Override
    public Void scan(Tree tree, Void none) {
        if (tree != null && ABSENT.containsKey(tree.getKind())) {
            must(ABSENT.get(tree.getKind()), "none of " + tree, false);
        }
        return super.scan(tree, none);
    }

    @Override
    public Void visitClass(ClassTree type, Void none) {
        boolean face = type.getSimpleName().contentEquals("AreaCore");
        Set<Modifier> modifiers = type.getModifiers().getFlags();
        must(1, "the face is public and final, what is inside it private or package-visible and static",
            face ? modifiers.contains(Modifier.PUBLIC) && modifiers.contains(Modifier.FINAL)
                : modifiers.contains(Modifier.STATIC) && !modifiers.contains(Modifier.PUBLIC)
                    && !modifiers.contains(Modifier.PROTECTED));
        int fields = 0;
        for (Tree member : type.getMembers()) {
            if (member instanceof VariableTree field) {
                boolean isStatic = field.getModifiers().getFlags().contains(Modifier.STATIC);
                fields += isStatic ? 0 : 1;
                must(5, field.getName() + " is a constant of int", !isStatic || constant(field));
            }
            must(5, "no initialiser block", member.getKind() != Tree.Kind.BLOCK);
        }
        must(11, type.getSimpleName() + " has at most some twenty fields", fields <= MOST_FIELDS);
        return super.visitClass(type, none);
    }

    private static boolean constant(VariableTree field) {
        return field.getModifiers().getFlags().contains(Modifier.FINAL)
            && field.getType().toString().equals("int") && field.getInitializer() != null;
    }

    @Override
    public Void visitMethod(MethodTree one, Void none) {
        method = one.getName().toString();
        long begin = line(positions.getStartPosition(unit, one));
        long end = line(positions.getEndPosition(unit, one));
        must(11, method + " is short", end - begin < MOST_LINES);
        must(11, method + " has few parameters", one.getParameters().size() <= MOST_PARAMETERS);
        ClassTree type = (ClassTree) getCurrentPath().getParentPath().getLeaf();
        Set<Modifier> modifiers = one.getModifiers().getFlags();
        boolean face = type.getSimpleName().contentEquals("AreaCore");
        must(1, method + " bears no name of the face's",
            face ? modifiers.contains(Modifier.PUBLIC) : !ofTheFace(method));
        return super.visitMethod(one, none);
    }

    private static boolean ofTheFace(String name) {
        for (java.lang.reflect.Method one : AreaCore.class.getDeclaredMethods()) {
            if (one.getName().equals(name)) {
                return true;
            }
        }
        return false;
    }

    @Override
    public Void visitVariable(VariableTree variable, Void none) {
        String type = variable.getType().toString();
        must(3, "a variable of " + type,
            Set.of("int", "boolean", "int[]").contains(type) || classes.contains(type));
        return super.visitVariable(variable, none);
    }

    @Override
    public Void visitMethodInvocation(MethodInvocationTree call, Void none) {
        ExpressionTree select = call.getMethodSelect();
        String whole = select.toString();
        if (!LIBRARY.contains(whole)) {
            String name = select instanceof MemberSelectTree member
                ? member.getIdentifier().toString() : ((IdentifierTree) select).getName().toString();
            must(4, "a call of " + whole, methods.contains(name));
            calls.computeIfAbsent(method, caller -> new TreeSet<>()).add(name);
        }
        return super.visitMethodInvocation(call, none);
    }

    @Override
    public Void visitThrow(ThrowTree thrown, Void none) {
        boolean plain = thrown.getExpression() instanceof NewClassTree made
            && THROWN.contains(made.getIdentifier().toString()) && made.getArguments().size() <= 1;
        must(6, "" + thrown, plain && !method.equals("<init>"));
        return super.visitThrow(thrown, none);
    }

    @Override
    public Void visitNewClass(NewClassTree made, Void none) {
        String type = made.getIdentifier().toString();
        must(2, "no anonymous class", made.getClassBody() == null);
        must(12, "a new " + type + " in " + method,
            THROWN.contains(type) || classes.contains(type) && method.equals("<init>"));
        return super.visitNewClass(made, none);
    }

    @Override
    public Void visitNewArray(NewArrayTree made, Void none) {
        must(12, "a new array in " + method, method.equals("<init>"));
        return super.visitNewArray(made, none);
    }

    @Override
    public Void visitLiteral(LiteralTree literal, Void none) {
        if (literal.getValue() instanceof String text) {
            must(3, "the characters of " + text, text.chars().allMatch(c -> c <= 255));
        }
        return super.visitLiteral(literal, none);
    }
}
