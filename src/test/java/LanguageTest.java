import com.sun.source.tree.AssertTree;
import com.sun.source.tree.BinaryTree;
import com.sun.source.tree.BlockTree;
import com.sun.source.tree.CatchTree;
import com.sun.source.tree.ClassTree;
import com.sun.source.tree.CompilationUnitTree;
import com.sun.source.tree.ExpressionTree;
import com.sun.source.tree.IdentifierTree;
import com.sun.source.tree.ImportTree;
import com.sun.source.tree.LambdaExpressionTree;
import com.sun.source.tree.LineMap;
import com.sun.source.tree.MemberReferenceTree;
import com.sun.source.tree.MemberSelectTree;
import com.sun.source.tree.MethodInvocationTree;
import com.sun.source.tree.MethodTree;
import com.sun.source.tree.NewClassTree;
import com.sun.source.tree.PrimitiveTypeTree;
import com.sun.source.tree.SynchronizedTree;
import com.sun.source.tree.ThrowTree;
import com.sun.source.tree.Tree;
import com.sun.source.tree.TryTree;
import com.sun.source.tree.VariableTree;
import com.sun.source.util.JavacTask;
import com.sun.source.util.SourcePositions;
import com.sun.source.util.TreeScanner;
import com.sun.source.util.Trees;
import java.io.IOException;
import java.nio.file.Files;
import java.nio.file.Path;
import java.util.ArrayList;
import java.util.HashMap;
import java.util.HashSet;
import java.util.List;
import java.util.Map;
import java.util.Set;
import java.util.TreeSet;
import javax.lang.model.element.Modifier;
import javax.tools.JavaCompiler;
import javax.tools.StandardJavaFileManager;
import javax.tools.ToolProvider;

/**
 * The class keeps to LANGUAGE.md, as far as its source tells by its form. That no call throws by
 * itself or fails to end (its rules 7 to 9) is for a reader: here only the length of calls is counted.
 */
final class LanguageTest extends TreeScanner<Void, Void> {
    private static final int MOST_LINES = 60;
    private static final int MOST_PARAMETERS = 7;
    private static final int MOST_CLASSES = 12;
    private static final int MOST_FIELDS = 20;
    private static final int MOST_CALLS_DEEP = 8;
    private static final String TEXT = "\"[^\"]*\"";

    private static final Set<String> EXCEPTIONS = Set.of("IllegalStateException", "IllegalArgumentException",
            "IndexOutOfBoundsException", "ArithmeticException", "UnsupportedOperationException",
            "NoSuchElementException", "RuntimeException");
    private static final Set<String> TYPES = Set.of("int", "long", "short", "byte", "char", "boolean", "double",
            "float", "void", "String", "StringBuilder", "Integer", "List", "ArrayList");
    private static final Set<String> CONSTANT_TYPES = Set.of("int", "long", "boolean", "char", "String",
            "int[]", "long[]", "char[]", "byte[]");
    private static final Set<String> MADE = Set.of("StringBuilder", "ArrayList", "String");
    private static final Set<String> IMPORTED = Set.of("java.util.ArrayList", "java.util.List",
            "java.util.Arrays", "java.util.Iterator", "java.util.NoSuchElementException");
    private static final Set<String> LIBRARY = Set.of("Integer.compare", "Integer.bitCount", "Integer.max",
            "Integer.min", "Integer.numberOfLeadingZeros", "Integer.numberOfTrailingZeros", "Integer.highestOneBit",
            "Integer.lowestOneBit", "Long.compare", "Long.bitCount", "Math.max", "Math.min", "Math.abs",
            "Math.floorDiv", "Math.floorMod", "System.arraycopy", "Arrays.copyOf", "Arrays.copyOfRange",
            "Arrays.fill", "List.of");
    private static final Set<String> LIBRARY_CLASSES = Set.of("Integer", "Long", "Math", "System", "Arrays", "List");
    private static final Set<String> NOT_OWN = Set.of("equals", "hashCode", "toString", "finalize");

    private final Set<String> faults = new TreeSet<>();
    private final Set<String> ownClasses = new HashSet<>();
    private final Map<String, Set<String>> callsOf = new HashMap<>();
    private final CompilationUnitTree unit;
    private final SourcePositions positions;
    private final LineMap lines;
    private int depth = 0;
    private MethodTree inside;

    private LanguageTest(CompilationUnitTree unit, SourcePositions positions) {
        this.unit = unit;
        this.positions = positions;
        this.lines = unit.getLineMap();
    }

    static void testSource(Path source) throws IOException {
        Check.same("faults of the class", faultsOf(source).toString(), "[]");
    }

    private static Set<String> faultsOf(Path source) throws IOException {
        JavaCompiler compiler = ToolProvider.getSystemJavaCompiler();
        try (StandardJavaFileManager manager = compiler.getStandardFileManager(null, null, null)) {
            JavacTask task = (JavacTask) compiler.getTask(null, manager, null, null, null,
                    manager.getJavaFileObjects(source));
            CompilationUnitTree unit = task.parse().iterator().next();
            LanguageTest test = new LanguageTest(unit, Trees.instance(task).getSourcePositions());
            test.readSigns(Files.readString(source));
            test.scanUnit();
            return test.faults;
        }
    }

    private void fault(Tree where, String what) {
        faults.add("line " + lines.getLineNumber(positions.getStartPosition(unit, where)) + ": " + what);
    }

    private void readSigns(String text) {
        if (text.chars().anyMatch(sign -> sign < 1 || sign > 127)) {
            faults.add("a sign that is not 1 to 127");
        }
    }

    private void scanUnit() {
        if (unit.getPackage() != null) {
            fault(unit, "a package line");
        }
        if (unit.getTypeDecls().size() != 1) {
            fault(unit, "not one class alone");
        }
        new TreeScanner<Void, Void>() {
            @Override
            public Void visitClass(ClassTree tree, Void none) {
                ownClasses.add(tree.getSimpleName().toString());
                return super.visitClass(tree, none);
            }
        }.scan(unit, null);
        if (ownClasses.size() > MOST_CLASSES) {
            fault(unit, "too many classes");
        }
        scan(unit, null);
        readDepth();
    }

    @Override
    public Void visitImport(ImportTree tree, Void none) {
        if (!IMPORTED.contains(tree.getQualifiedIdentifier().toString())) {
            fault(tree, "import");
        }
        return null;
    }

    @Override
    public Void visitClass(ClassTree tree, Void none) {
        Set<Modifier> modifiers = tree.getModifiers().getFlags();
        if (inside != null) {
            fault(tree, "a class in a method");
        }
        if (depth == 1 && (modifiers.contains(Modifier.PUBLIC) || modifiers.contains(Modifier.PROTECTED)
                || tree.getKind() == Tree.Kind.CLASS && !modifiers.contains(Modifier.STATIC))) {
            fault(tree, "a class inside that is not private or package-visible and static");
        }
        int fields = 0;
        for (Tree member : tree.getMembers()) {
            if (member instanceof VariableTree field) {
                readField(field);
                fields += field.getModifiers().getFlags().contains(Modifier.STATIC) ? 0 : 1;
            }
            if (member instanceof BlockTree block && block.isStatic()) {
                fault(member, "a static block");
            }
        }
        if (fields > MOST_FIELDS) {
            fault(tree, "too many fields");
        }
        depth++;
        super.visitClass(tree, none);
        depth--;
        return null;
    }

    private void readField(VariableTree field) {
        Set<Modifier> modifiers = field.getModifiers().getFlags();
        if (modifiers.contains(Modifier.STATIC) && (!modifiers.contains(Modifier.FINAL)
                || !CONSTANT_TYPES.contains(field.getType().toString()) || field.getInitializer() == null)) {
            fault(field, "a static field that is no constant");
        }
    }

    @Override
    public Void visitMethod(MethodTree tree, Void none) {
        String name = tree.getName().toString();
        boolean ofFace = depth == 1 && tree.getModifiers().getFlags().contains(Modifier.PUBLIC);
        if (!ofFace && FaceTest.callNames().contains(name)) {
            fault(tree, "the name of a public method");
        }
        if (NOT_OWN.contains(name)) {
            fault(tree, "an own " + name);
        }
        if (tree.getParameters().size() > MOST_PARAMETERS) {
            fault(tree, "too many parameters");
        }
        long first = lines.getLineNumber(positions.getStartPosition(unit, tree));
        long last = lines.getLineNumber(positions.getEndPosition(unit, tree));
        if (last - first + 1 > MOST_LINES) {
            fault(tree, "a long method");
        }
        if (tree.getReturnType() != null) {
            readType(tree.getReturnType());
        }
        inside = tree;
        callsOf.computeIfAbsent(name, any -> new TreeSet<>());
        super.visitMethod(tree, none);
        inside = null;
        return null;
    }

    @Override
    public Void visitVariable(VariableTree tree, Void none) {
        readType(tree.getType());
        return super.visitVariable(tree, none);
    }

    private void readType(Tree type) {
        String text = type == null ? "var" : type.toString();
        String base = text.replaceAll("(\\[\\]|<.*>)", "");
        boolean twice = text.endsWith("[][]");
        if (!TYPES.contains(base) && !ownClasses.contains(base) || text.contains("[][][]")
                || twice && !type.toString().matches("(int|long|short|byte|char|double|float)\\[\\]\\[\\]")) {
            fault(type == null ? unit : type, "the type " + text);
        }
    }

    @Override
    public Void visitMethodInvocation(MethodInvocationTree tree, Void none) {
        ExpressionTree called = tree.getMethodSelect();
        String name = called.toString();
        if (called instanceof MemberSelectTree select) {
            name = select.getIdentifier().toString();
            String of = select.getExpression().toString();
            if (LIBRARY_CLASSES.contains(of) && !LIBRARY.contains(of + "." + name)) {
                fault(tree, "the library's " + of + "." + name);
            }
        }
        if (inside != null) {
            callsOf.get(inside.getName().toString()).add(name);
        }
        return super.visitMethodInvocation(tree, none);
    }

    @Override
    public Void visitIdentifier(IdentifierTree tree, Void none) {
        String name = tree.getName().toString();
        boolean known = ownClasses.contains(name) || LIBRARY_CLASSES.contains(name) || TYPES.contains(name)
                || EXCEPTIONS.contains(name);
        if (Character.isUpperCase(name.charAt(0)) && name.chars().anyMatch(Character::isLowerCase) && !known) {
            fault(tree, "the class " + name);
        }
        return super.visitIdentifier(tree, none);
    }

    @Override
    public Void visitMemberSelect(MemberSelectTree tree, Void none) {
        if (tree.toString().startsWith("java.") || tree.toString().startsWith("javax.")) {
            fault(tree, "the library's " + tree);
        }
        return super.visitMemberSelect(tree, none);
    }

    @Override
    public Void visitNewClass(NewClassTree tree, Void none) {
        String name = tree.getIdentifier().toString().replaceAll("<.*>", "");
        if (!ownClasses.contains(name) && !EXCEPTIONS.contains(name) && !MADE.contains(name)) {
            fault(tree, "new " + name);
        }
        return super.visitNewClass(tree, none);
    }

    @Override
    public Void visitThrow(ThrowTree tree, Void none) {
        boolean plain = tree.getExpression() instanceof NewClassTree made
                && EXCEPTIONS.contains(made.getIdentifier().toString())
                && (made.getArguments().isEmpty() || made.getArguments().size() == 1
                        && made.getArguments().get(0).toString().matches(TEXT));
        if (!plain) {
            fault(tree, "throw of another kind");
        }
        if (inside != null && inside.getReturnType() == null) {
            fault(tree, "throw in a constructor");
        }
        return super.visitThrow(tree, none);
    }

    @Override
    public Void visitTry(TryTree tree, Void none) {
        if (tree.getFinallyBlock() != null || !tree.getResources().isEmpty()) {
            fault(tree, "finally or resources");
        }
        return super.visitTry(tree, none);
    }

    @Override
    public Void visitCatch(CatchTree tree, Void none) {
        // The variable's own type is no type of the program.
        for (String name : tree.getParameter().getType().toString().split("\\|")) {
            if (!EXCEPTIONS.contains(name.trim())) {
                fault(tree, "catch of " + name.trim());
            }
        }
        return scan(tree.getBlock(), none);
    }

    @Override
    public Void visitBinary(BinaryTree tree, Void none) {
        boolean text = tree.getLeftOperand().toString().matches(TEXT) || tree.getRightOperand().toString().matches(TEXT);
        if (tree.getKind() == Tree.Kind.PLUS && text) {
            fault(tree, "texts joined by +");
        }
        return super.visitBinary(tree, none);
    }

    @Override
    public Void visitLambdaExpression(LambdaExpressionTree tree, Void none) {
        fault(tree, "a lambda");
        return null;
    }

    @Override
    public Void visitMemberReference(MemberReferenceTree tree, Void none) {
        fault(tree, "a method reference");
        return null;
    }

    @Override
    public Void visitSynchronized(SynchronizedTree tree, Void none) {
        fault(tree, "synchronized");
        return null;
    }

    @Override
    public Void visitAssert(AssertTree tree, Void none) {
        fault(tree, "assert");
        return null;
    }

    /** "calls that are no recursion go at most eight deep": a call back up the chain is a recursion. */
    private void readDepth() {
        for (String name : FaceTest.callNames()) {
            deepen(name, new ArrayList<>());
        }
    }

    private void deepen(String name, List<String> chain) {
        if (chain.contains(name) || !callsOf.containsKey(name)) {
            return;
        }
        chain.add(name);
        if (chain.size() > MOST_CALLS_DEEP) {
            faults.add("calls too deep: " + String.join(" ", chain));
        }
        for (String called : callsOf.get(name)) {
            deepen(called, chain);
        }
        chain.remove(chain.size() - 1);
    }
}
