import com.sun.source.tree.BinaryTree;
import com.sun.source.tree.BlockTree;
import com.sun.source.tree.ClassTree;
import com.sun.source.tree.CompilationUnitTree;
import com.sun.source.tree.CompoundAssignmentTree;
import com.sun.source.tree.ExpressionTree;
import com.sun.source.tree.LiteralTree;
import com.sun.source.tree.MethodInvocationTree;
import com.sun.source.tree.MethodTree;
import com.sun.source.tree.NewArrayTree;
import com.sun.source.tree.NewClassTree;
import com.sun.source.tree.ThrowTree;
import com.sun.source.tree.Tree;
import com.sun.source.tree.VariableTree;
import com.sun.source.util.JavacTask;
import com.sun.source.util.TreePath;
import com.sun.source.util.TreePathScanner;
import com.sun.source.util.Trees;
import java.io.IOException;
import java.nio.charset.StandardCharsets;
import java.nio.file.Files;
import java.nio.file.Path;
import java.util.ArrayList;
import java.util.EnumSet;
import java.util.HashMap;
import java.util.HashSet;
import java.util.List;
import java.util.Map;
import java.util.Set;
import javax.lang.model.element.Element;
import javax.lang.model.element.ExecutableElement;
import javax.lang.model.element.Modifier;
import javax.lang.model.element.TypeElement;
import javax.tools.JavaCompiler;
import javax.tools.StandardJavaFileManager;
import javax.tools.ToolProvider;

/** The program keeps to ../shared/LANGUAGE.md, as far as its tree can show; each test names the rule that it is of. */
public final class LanguageTest extends TreePathScanner<Void, Void> {
    private static final Path PROGRAM = Path.of("src/main/java/SquareGears.java");
    /** All that the tree of the program may have; what is not here would have to be looked up in the rules. */
    private static final Set<Tree.Kind> KINDS = EnumSet.of(Tree.Kind.COMPILATION_UNIT, Tree.Kind.CLASS, Tree.Kind.METHOD,
        Tree.Kind.VARIABLE, Tree.Kind.MODIFIERS, Tree.Kind.IDENTIFIER, Tree.Kind.MEMBER_SELECT, Tree.Kind.BLOCK,
        Tree.Kind.IF, Tree.Kind.FOR_LOOP, Tree.Kind.SWITCH, Tree.Kind.CASE, Tree.Kind.RETURN, Tree.Kind.THROW,
        Tree.Kind.EXPRESSION_STATEMENT, Tree.Kind.CONDITIONAL_EXPRESSION, Tree.Kind.PARENTHESIZED,
        Tree.Kind.METHOD_INVOCATION, Tree.Kind.NEW_CLASS, Tree.Kind.NEW_ARRAY, Tree.Kind.ARRAY_ACCESS,
        Tree.Kind.ARRAY_TYPE, Tree.Kind.PRIMITIVE_TYPE, Tree.Kind.TYPE_CAST, Tree.Kind.ASSIGNMENT,
        Tree.Kind.INT_LITERAL, Tree.Kind.LONG_LITERAL, Tree.Kind.DOUBLE_LITERAL, Tree.Kind.CHAR_LITERAL,
        Tree.Kind.STRING_LITERAL, Tree.Kind.BOOLEAN_LITERAL, Tree.Kind.PLUS, Tree.Kind.MINUS, Tree.Kind.MULTIPLY,
        Tree.Kind.DIVIDE, Tree.Kind.REMAINDER, Tree.Kind.AND, Tree.Kind.OR, Tree.Kind.XOR, Tree.Kind.LEFT_SHIFT,
        Tree.Kind.RIGHT_SHIFT, Tree.Kind.UNARY_MINUS, Tree.Kind.LOGICAL_COMPLEMENT, Tree.Kind.CONDITIONAL_AND,
        Tree.Kind.CONDITIONAL_OR, Tree.Kind.EQUAL_TO, Tree.Kind.NOT_EQUAL_TO, Tree.Kind.LESS_THAN,
        Tree.Kind.LESS_THAN_EQUAL, Tree.Kind.GREATER_THAN, Tree.Kind.GREATER_THAN_EQUAL, Tree.Kind.POSTFIX_INCREMENT,
        Tree.Kind.POSTFIX_DECREMENT, Tree.Kind.PLUS_ASSIGNMENT, Tree.Kind.MINUS_ASSIGNMENT, Tree.Kind.DIVIDE_ASSIGNMENT,
        Tree.Kind.OR_ASSIGNMENT, Tree.Kind.XOR_ASSIGNMENT);
    private static final Set<String> LABELS = Set.of("CONSTANT_CASE_LABEL", "DEFAULT_CASE_LABEL");
    private static final Set<String> LIBRARY = Set.of("Math.abs", "Math.max", "Math.min", "Math.floorDiv",
        "Integer.bitCount", "System.arraycopy");
    private static final Set<String> EXCEPTIONS = Set.of("IllegalStateException", "IllegalArgumentException",
        "IndexOutOfBoundsException");
    private static final Set<String> STATIC_TYPES = Set.of("int", "long", "boolean", "char", "String");
    private static final Set<String> TYPES = Set.of("int", "long", "char", "boolean", "double", "void", "int[]", "char[]",
        "SquareGears", "Gears", "Gears[]", "SavedGears", "WheelText");

    private final CompilationUnitTree file;
    private final Trees trees;
    private final Map<Element, Set<Element>> calls = new HashMap<>();
    private final Set<String> publicNames = new HashSet<>();
    private final List<MethodTree> privateMethods = new ArrayList<>();
    private int classes = 0;

    private LanguageTest(CompilationUnitTree file, Trees trees) {
        this.file = file;
        this.trees = trees;
    }

    public static void main(String[] args) throws IOException {
        String source = Files.readString(PROGRAM, StandardCharsets.UTF_8);
        Due.isTrue("rule 4: the program has signs 1 to 127 alone", source.chars().allMatch(sign -> sign >= 1 && sign <= 127));
        JavaCompiler compiler = ToolProvider.getSystemJavaCompiler();
        try (StandardJavaFileManager files = compiler.getStandardFileManager(null, null, null)) {
            JavacTask task = (JavacTask) compiler.getTask(null, files, null, List.of("--release", "17", "-proc:none"), null,
                files.getJavaFileObjects(PROGRAM));
            CompilationUnitTree file = task.parse().iterator().next();
            task.analyze();
            new LanguageTest(file, Trees.instance(task)).testAll();
        }
        Due.end("LanguageTest");
    }

    private void testAll() {
        Due.isTrue("rule 1: no package", file.getPackage() == null);
        Due.is("rule 4: imports", 0, file.getImports().size());
        Due.is("rule 1: classes of the file", 1, file.getTypeDecls().size());
        scan(file, null);
        Due.isTrue("rule 11: some twelve classes, not " + classes, classes <= 12);
        for (MethodTree method : privateMethods) {
            Due.isTrue("rule 1: " + method.getName() + " is no public name", !publicNames.contains(method.getName().toString()));
        }
        for (Element method : calls.keySet()) {
            testDepth(method, new ArrayList<>());
        }
    }

    /** A path of calls that comes back to itself would be longer than any that is allowed, so this ends. */
    private void testDepth(Element method, List<Element> path) {
        path.add(method);
        Due.isTrue("rules 8 and 11: calls go at most eight deep: " + path, path.size() <= 8);
        if (path.size() <= 8) {
            for (Element called : calls.getOrDefault(method, Set.of())) {
                testDepth(called, path);
            }
        }
        path.remove(path.size() - 1);
    }

    private String at(Tree tree) {
        return "line " + file.getLineMap().getLineNumber(trees.getSourcePositions().getStartPosition(file, tree));
    }

    private MethodTree enclosingMethod() {
        for (TreePath path = getCurrentPath(); path != null; path = path.getParentPath()) {
            if (path.getLeaf() instanceof MethodTree) {
                return (MethodTree) path.getLeaf();
            }
        }
        return null;
    }

    @Override
    public Void scan(Tree tree, Void none) {
        if (tree != null) {
            Due.isTrue("rules 2 to 10: " + tree.getKind() + " (" + at(tree) + ")", isAllowed(tree.getKind()));
        }
        return super.scan(tree, none);
    }

    /** A later Java than 17 wraps what stands behind "case" in a tree of its own, which 17 has no name for. */
    private static boolean isAllowed(Tree.Kind kind) {
        return KINDS.contains(kind) || LABELS.contains(kind.name());
    }

    @Override
    public Void visitClass(ClassTree tree, Void none) {
        classes++;
        Set<Modifier> modifiers = tree.getModifiers().getFlags();
        if (classes > 1) {
            Due.isTrue("rule 1: " + tree.getSimpleName() + " is private and static",
                modifiers.contains(Modifier.PRIVATE) && modifiers.contains(Modifier.STATIC));
        }
        int fields = 0;
        for (Tree member : tree.getMembers()) {
            Due.isTrue("rule 5: no initialiser block (" + at(member) + ")", !(member instanceof BlockTree));
            if (member instanceof VariableTree) {
                fields += isStatic((VariableTree) member) ? 0 : 1;
                testField((VariableTree) member);
            }
        }
        Due.isTrue("rule 11: some twenty fields in " + tree.getSimpleName() + ", not " + fields, fields <= 20);
        return super.visitClass(tree, none);
    }

    private static boolean isStatic(VariableTree field) {
        return field.getModifiers().getFlags().contains(Modifier.STATIC);
    }

    private void testField(VariableTree field) {
        Set<Modifier> modifiers = field.getModifiers().getFlags();
        String name = field.getName().toString();
        Due.isTrue("rule 1: " + name + " is private", name.equals("NONE") || modifiers.contains(Modifier.PRIVATE));
        if (isStatic(field)) {
            Due.isTrue("rule 5: " + name + " is final", modifiers.contains(Modifier.FINAL));
            Due.isTrue("rule 5: the type of " + name, STATIC_TYPES.contains(field.getType().toString()));
        }
    }

    @Override
    public Void visitVariable(VariableTree tree, Void none) {
        Due.isTrue("rule 3: the type of " + tree.getName() + " (" + at(tree) + ")", TYPES.contains(tree.getType().toString()));
        return super.visitVariable(tree, none);
    }

    @Override
    public Void visitMethod(MethodTree tree, Void none) {
        Element method = trees.getElement(getCurrentPath());
        calls.putIfAbsent(method, new HashSet<>());
        boolean constructor = tree.getReturnType() == null;
        if (tree.getModifiers().getFlags().contains(Modifier.PUBLIC)) {
            publicNames.add(tree.getName().toString());
        } else if (!constructor) {
            Due.isTrue("rule 1: " + method + " is private", tree.getModifiers().getFlags().contains(Modifier.PRIVATE));
            privateMethods.add(tree);
        }
        Due.isTrue("rule 3: what " + method + " returns", constructor || TYPES.contains(tree.getReturnType().toString()));
        Due.isTrue("rule 11: the parameters of " + method, tree.getParameters().size() <= 7);
        long first = trees.getSourcePositions().getStartPosition(file, tree);
        long last = trees.getSourcePositions().getEndPosition(file, tree);
        long lines = last < 0 ? 1 : file.getLineMap().getLineNumber(last) - file.getLineMap().getLineNumber(first) + 1;
        Due.isTrue("rule 11: some sixty lines in " + method + ", not " + lines, lines <= 60);
        return super.visitMethod(tree, none);
    }

    @Override
    public Void visitMethodInvocation(MethodInvocationTree tree, Void none) {
        ExecutableElement called = (ExecutableElement) trees.getElement(getCurrentPath());
        Element owner = called.getEnclosingElement();
        boolean own = isOwn(owner);
        boolean made = called.getSimpleName().contentEquals("<init>");
        if (own) {
            addCall(called);
        } else if (!made) {
            String name = owner.getSimpleName() + "." + called.getSimpleName();
            Due.isTrue("rule 4: " + name + " (" + at(tree) + ")", LIBRARY.contains(name));
        }
        return super.visitMethodInvocation(tree, none);
    }

    private static boolean isOwn(Element type) {
        for (Element outer = type; outer instanceof TypeElement; outer = outer.getEnclosingElement()) {
            if (outer.getSimpleName().contentEquals("SquareGears")) {
                return true;
            }
        }
        return false;
    }

    /** What a field's initialiser calls, the constructors call. */
    private void addCall(Element called) {
        MethodTree caller = enclosingMethod();
        if (caller != null) {
            calls.computeIfAbsent(trees.getElement(trees.getPath(file, caller)), any -> new HashSet<>()).add(called);
        }
    }

    @Override
    public Void visitNewClass(NewClassTree tree, Void none) {
        Element made = trees.getElement(getCurrentPath());
        String name = tree.getIdentifier().toString();
        Due.isTrue("rule 2: no anonymous class (" + at(tree) + ")", tree.getClassBody() == null);
        if (isOwn(made.getEnclosingElement())) {
            addCall(made);
            testMadeAtFirst(name, tree);
        } else {
            Due.isTrue("rule 6: new " + name + " (" + at(tree) + ")", EXCEPTIONS.contains(name));
            Due.isTrue("rule 6: new " + name + " is thrown at once (" + at(tree) + ")",
                getCurrentPath().getParentPath().getLeaf() instanceof ThrowTree);
        }
        return super.visitNewClass(tree, none);
    }

    @Override
    public Void visitNewArray(NewArrayTree tree, Void none) {
        testMadeAtFirst("array", tree);
        return super.visitNewArray(tree, none);
    }

    /** No call makes an object, but an exception, so that all calls of a run have room (rule 12). */
    private void testMadeAtFirst(String name, Tree tree) {
        MethodTree method = enclosingMethod();
        Due.isTrue("rule 12: new " + name + " in a field or a constructor (" + at(tree) + ")",
            method == null || method.getReturnType() == null);
    }

    @Override
    public Void visitThrow(ThrowTree tree, Void none) {
        ExpressionTree thrown = tree.getExpression();
        Due.isTrue("rule 6: a new exception (" + at(tree) + ")", thrown instanceof NewClassTree);
        if (thrown instanceof NewClassTree) {
            for (ExpressionTree argument : ((NewClassTree) thrown).getArguments()) {
                Due.isTrue("rule 6: a written text (" + at(tree) + ")", argument.getKind() == Tree.Kind.STRING_LITERAL);
            }
        }
        MethodTree method = enclosingMethod();
        Due.isTrue("rule 6: no throw in a constructor (" + at(tree) + ")", method != null && method.getReturnType() != null);
        return super.visitThrow(tree, none);
    }

    @Override
    public Void visitBinary(BinaryTree tree, Void none) {
        Due.isTrue("rule 10: no text is joined (" + at(tree) + ")",
            tree.getLeftOperand().getKind() != Tree.Kind.STRING_LITERAL
                && tree.getRightOperand().getKind() != Tree.Kind.STRING_LITERAL);
        boolean divides = tree.getKind() == Tree.Kind.DIVIDE || tree.getKind() == Tree.Kind.REMAINDER;
        Due.isTrue("rule 7: a divisor that is not 0 (" + at(tree) + ")", !divides || isKnownDivisor(tree.getRightOperand()));
        return super.visitBinary(tree, none);
    }

    @Override
    public Void visitCompoundAssignment(CompoundAssignmentTree tree, Void none) {
        Due.isTrue("rule 7: a divisor that is not 0 (" + at(tree) + ")",
            tree.getKind() != Tree.Kind.DIVIDE_ASSIGNMENT || isKnownDivisor(tree.getExpression()));
        return super.visitCompoundAssignment(tree, none);
    }

    /** A constant or a number that is not 0, or a double, whose test stands before it. */
    private static boolean isKnownDivisor(ExpressionTree divisor) {
        if (divisor instanceof LiteralTree) {
            return !Integer.valueOf(0).equals(((LiteralTree) divisor).getValue());
        }
        String told = divisor.toString();
        return told.equals("SIZE") || told.equals("MOST") || told.equals("(double)all");
    }
}
