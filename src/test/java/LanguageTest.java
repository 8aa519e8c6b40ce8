import com.sun.source.tree.AnnotationTree;
import com.sun.source.tree.BinaryTree;
import com.sun.source.tree.ClassTree;
import com.sun.source.tree.CompilationUnitTree;
import com.sun.source.tree.CompoundAssignmentTree;
import com.sun.source.tree.LiteralTree;
import com.sun.source.tree.MethodInvocationTree;
import com.sun.source.tree.MethodTree;
import com.sun.source.tree.NewArrayTree;
import com.sun.source.tree.NewClassTree;
import com.sun.source.tree.Tree;
import com.sun.source.tree.VariableTree;
import com.sun.source.util.JavacTask;
import com.sun.source.util.TreePath;
import com.sun.source.util.TreePathScanner;
import com.sun.source.util.Trees;
import java.io.IOException;
import java.nio.file.Path;
import java.util.ArrayList;
import java.util.EnumSet;
import java.util.HashMap;
import java.util.HashSet;
import java.util.List;
import java.util.Map;
import java.util.Set;
import javax.lang.model.element.Element;
import javax.lang.model.element.ElementKind;
import javax.lang.model.element.ExecutableElement;
import javax.lang.model.element.Modifier;
import javax.lang.model.element.NestingKind;
import javax.lang.model.element.TypeElement;
import javax.lang.model.element.VariableElement;
import javax.lang.model.type.ArrayType;
import javax.lang.model.type.TypeKind;
import javax.lang.model.type.TypeMirror;
import javax.tools.JavaCompiler;
import javax.tools.StandardJavaFileManager;
import javax.tools.ToolProvider;

/** The rules of LANGUAGE.md that can be seen in the source, by the compiler's own tree of it. */
public final class LanguageTest extends TreePathScanner<Void, Void> {
    private static final Set<Tree.Kind> FORBIDDEN = EnumSet.of(Tree.Kind.THROW, Tree.Kind.TRY, Tree.Kind.CATCH,
        Tree.Kind.SYNCHRONIZED, Tree.Kind.ASSERT, Tree.Kind.LAMBDA_EXPRESSION, Tree.Kind.MEMBER_REFERENCE,
        Tree.Kind.BINDING_PATTERN, Tree.Kind.SWITCH_EXPRESSION, Tree.Kind.YIELD);
    /** What of the library the class uses; all of it stands in rule 4. */
    private static final Set<String> LIBRARY = Set.of("java.lang.Math.min(int,int)", "java.lang.Math.max(int,int)",
        "java.lang.Integer.bitCount(int)", "java.lang.String.length()", "java.lang.String.charAt(int)",
        "java.util.Arrays.fill(int[],int)", "java.lang.Object.Object()",
        "java.lang.System.arraycopy(java.lang.Object,int,java.lang.Object,int,int)");
    private static final int CALLS_DEEP = 8;
    private static final int METHOD_LINES = 60;
    private static final int CLASSES = 12;
    private static final int FIELDS = 20;
    private static final int PARAMETERS = 7;
    private static final Check CHECK = new Check();

    private final Trees trees;
    private final CompilationUnitTree unit;
    private final Map<Element, Set<Element>> calls = new HashMap<>();
    private final Set<String> face = new HashSet<>();
    private int classes = 0;

    private LanguageTest(Trees trees, CompilationUnitTree unit) {
        this.trees = trees;
        this.unit = unit;
    }

    public static void main(String[] args) throws IOException {
        JavaCompiler compiler = ToolProvider.getSystemJavaCompiler();
        try (StandardJavaFileManager files = compiler.getStandardFileManager(null, null, null)) {
            JavacTask task = (JavacTask) compiler.getTask(null, files, null, List.of("-proc:none"), null,
                files.getJavaFileObjects(Path.of("src/main/java/BoardSums.java")));
            CompilationUnitTree unit = task.parse().iterator().next();
            task.analyze();
            new LanguageTest(Trees.instance(task), unit).look();
        }
        CHECK.end();
    }

    private void look() {
        fault("the file has no package", unit.getPackageName() != null);
        fault("the file has one class at its top", unit.getTypeDecls().size() != 1);
        scan(unit, null);
        fault("rule 11: " + classes + " classes", classes > CLASSES);
        List<Element> methods = new ArrayList<>(calls.keySet());
        for (Element method : methods) {
            int deep = depth(method, new ArrayList<>());
            fault("rule 11: " + method + " goes " + deep + " calls deep", deep > CALLS_DEEP);
        }
    }

    private void fault(String words, boolean isThere) {
        CHECK.due(words, isThere ? 1 : 0, 0);
    }

    private String line(Tree tree) {
        long start = trees.getSourcePositions().getStartPosition(unit, tree);
        return "line " + unit.getLineMap().getLineNumber(Math.max(0, start)) + ": ";
    }

    private Element here() {
        return trees.getElement(getCurrentPath());
    }

    private TypeMirror typeOf(Tree tree) {
        return trees.getTypeMirror(new TreePath(getCurrentPath(), tree));
    }

    @Override
    public Void scan(Tree tree, Void nothing) {
        if (tree != null) {
            fault(line(tree) + "rule 2 or 6: " + tree.getKind(), FORBIDDEN.contains(tree.getKind()));
        }
        return super.scan(tree, nothing);
    }

    @Override
    public Void visitAnnotation(AnnotationTree tree, Void nothing) {
        fault(line(tree) + "rule 4: an annotation", true);
        return super.visitAnnotation(tree, nothing);
    }

    @Override
    public Void visitClass(ClassTree tree, Void nothing) {
        classes++;
        TypeElement type = (TypeElement) here();
        String words = line(tree) + tree.getSimpleName();
        Set<Modifier> modifiers = type.getModifiers();
        boolean isTop = type.getNestingKind() == NestingKind.TOP_LEVEL;
        boolean isMember = type.getNestingKind() == NestingKind.MEMBER;
        fault(words + " rule 1: public and final", isTop && !modifiers.containsAll(Set.of(Modifier.PUBLIC, Modifier.FINAL)));
        fault(words + " rule 2: static, not local, not without a name", !isTop && !isMember);
        fault(words + " rule 2: static", isMember && !modifiers.contains(Modifier.STATIC));
        fault(words + " rule 1: not public or protected", isMember
            && (modifiers.contains(Modifier.PUBLIC) || modifiers.contains(Modifier.PROTECTED)));
        int fields = 0;
        for (Tree member : tree.getMembers()) {
            boolean isField = member.getKind() == Tree.Kind.VARIABLE;
            fields += isField && !isStatic((VariableTree) member) ? 1 : 0;
            fault(words + " rule 5: a block", member.getKind() == Tree.Kind.BLOCK);
        }
        fault(words + " rule 11: " + fields + " fields", fields > FIELDS);
        for (Element member : type.getEnclosedElements()) {
            if (isTop && member.getKind() == ElementKind.METHOD && member.getModifiers().contains(Modifier.PUBLIC)) {
                face.add(member.getSimpleName().toString());
            }
        }
        return super.visitClass(tree, nothing);
    }

    private static boolean isStatic(VariableTree field) {
        return field.getModifiers().getFlags().contains(Modifier.STATIC);
    }

    @Override
    public Void visitMethod(MethodTree tree, Void nothing) {
        ExecutableElement method = (ExecutableElement) here();
        String words = line(tree) + method;
        boolean isPublic = method.getModifiers().contains(Modifier.PUBLIC);
        fault(words + " rule 1: the name of a public one", !isPublic && face.contains(tree.getName().toString()));
        fault(words + " rule 11: parameters", tree.getParameters().size() > PARAMETERS);
        fault(words + " rule 6: equals, hashCode, toString",
            Set.of("equals", "hashCode", "toString").contains(tree.getName().toString()));
        long start = unit.getLineMap().getLineNumber(Math.max(0, trees.getSourcePositions().getStartPosition(unit, tree)));
        long end = trees.getSourcePositions().getEndPosition(unit, tree);
        // A constructor that the compiler adds has no end.
        fault(words + " rule 11: lines", end > 0 && unit.getLineMap().getLineNumber(end) - start + 1 > METHOD_LINES);
        calls.computeIfAbsent(method, m -> new HashSet<>());
        return super.visitMethod(tree, nothing);
    }

    @Override
    public Void visitVariable(VariableTree tree, Void nothing) {
        Element variable = here();
        String words = line(tree) + variable;
        fault(words + " rule 3: " + variable.asType(), !isAllowed(variable.asType()));
        if (variable.getKind() == ElementKind.FIELD && isStatic(tree)) {
            fault(words + " rule 5: final", !variable.getModifiers().contains(Modifier.FINAL));
            TypeKind kind = variable.asType().getKind();
            fault(words + " rule 5: a number", !EnumSet.of(TypeKind.INT, TypeKind.LONG, TypeKind.BOOLEAN, TypeKind.CHAR)
                .contains(kind));
        }
        return super.visitVariable(tree, nothing);
    }

    /** Whole numbers and truths, rows of them and of own objects, tables of them, and texts. */
    private boolean isAllowed(TypeMirror type) {
        if (type.getKind() != TypeKind.ARRAY) {
            boolean isFraction = type.getKind() == TypeKind.DOUBLE || type.getKind() == TypeKind.FLOAT;
            return type.getKind().isPrimitive() && !isFraction || isOwn(type) || type.toString().equals("java.lang.String");
        }
        TypeMirror part = ((ArrayType) type).getComponentType();
        if (part.getKind() != TypeKind.ARRAY) {
            return part.getKind().isPrimitive() || isOwn(part);
        }
        return ((ArrayType) part).getComponentType().getKind().isPrimitive();
    }

    private static boolean isOwn(TypeMirror type) {
        return type.toString().equals("BoardSums") || type.toString().startsWith("BoardSums.");
    }

    @Override
    public Void visitMethodInvocation(MethodInvocationTree tree, Void nothing) {
        called(tree, here());
        return super.visitMethodInvocation(tree, nothing);
    }

    @Override
    public Void visitNewClass(NewClassTree tree, Void nothing) {
        called(tree, here());
        madeInConstructor(tree);
        return super.visitNewClass(tree, nothing);
    }

    @Override
    public Void visitNewArray(NewArrayTree tree, Void nothing) {
        madeInConstructor(tree);
        return super.visitNewArray(tree, nothing);
    }

    private ExecutableElement around() {
        TreePath path = getCurrentPath();
        while (path != null && path.getLeaf().getKind() != Tree.Kind.METHOD) {
            path = path.getParentPath();
        }
        return path == null ? null : (ExecutableElement) trees.getElement(path);
    }

    private void called(Tree tree, Element callee) {
        boolean isOwnMethod = isOwn(callee.getEnclosingElement().asType());
        fault(line(tree) + "rule 4: " + callee.getEnclosingElement() + "." + callee,
            !isOwnMethod && !LIBRARY.contains(callee.getEnclosingElement() + "." + callee));
        ExecutableElement caller = around();
        if (isOwnMethod && caller != null) {
            calls.computeIfAbsent(caller, m -> new HashSet<>()).add(callee);
        }
    }

    private void madeInConstructor(Tree tree) {
        ExecutableElement method = around();
        fault(line(tree) + "rule 12: made in a call", method != null && method.getKind() != ElementKind.CONSTRUCTOR);
    }

    private int depth(Element method, List<Element> open) {
        if (open.contains(method)) {
            fault("rule 8: " + method + " calls itself", true);
            return 0;
        }
        open.add(method);
        int deepest = 0;
        for (Element callee : calls.getOrDefault(method, Set.of())) {
            deepest = Math.max(deepest, depth(callee, open));
        }
        open.remove(open.size() - 1);
        return deepest + 1;
    }

    @Override
    public Void visitBinary(BinaryTree tree, Void nothing) {
        TypeMirror left = typeOf(tree.getLeftOperand());
        boolean isJoin = tree.getKind() == Tree.Kind.PLUS && !left.getKind().isPrimitive();
        boolean isMask = EnumSet.of(Tree.Kind.AND, Tree.Kind.OR, Tree.Kind.XOR).contains(tree.getKind());
        boolean isSame = EnumSet.of(Tree.Kind.EQUAL_TO, Tree.Kind.NOT_EQUAL_TO).contains(tree.getKind());
        fault(line(tree) + "rule 10: texts joined by +", isJoin);
        fault(line(tree) + "rule 10: a mask of truths", isMask && left.getKind() == TypeKind.BOOLEAN);
        fault(line(tree) + "rule 6: == of texts", isSame && left.toString().equals("java.lang.String"));
        boolean isDivision = EnumSet.of(Tree.Kind.DIVIDE, Tree.Kind.REMAINDER).contains(tree.getKind());
        fault(line(tree) + "rule 7: a divisor that is no constant", isDivision && !isConstant(tree.getRightOperand()));
        return super.visitBinary(tree, nothing);
    }

    private boolean isConstant(Tree tree) {
        if (tree instanceof LiteralTree literal) {
            return !Integer.valueOf(0).equals(literal.getValue());
        }
        Element named = trees.getElement(new TreePath(getCurrentPath(), tree));
        return named instanceof VariableElement v
            && v.getConstantValue() instanceof Integer n && n != 0;
    }

    @Override
    public Void visitCompoundAssignment(CompoundAssignmentTree tree, Void nothing) {
        TypeMirror type = typeOf(tree.getVariable());
        boolean isNumber = type.getKind().isPrimitive() && type.getKind() != TypeKind.BOOLEAN;
        fault(line(tree) + "rule 10: " + tree.getKind() + " of no number", !isNumber);
        boolean isDivision = EnumSet.of(Tree.Kind.DIVIDE_ASSIGNMENT, Tree.Kind.REMAINDER_ASSIGNMENT)
            .contains(tree.getKind());
        fault(line(tree) + "rule 7: a divisor that is no constant", isDivision && !isConstant(tree.getExpression()));
        return super.visitCompoundAssignment(tree, nothing);
    }
}
