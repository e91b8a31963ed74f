import com.sun.source.tree.ArrayAccessTree;
import com.sun.source.tree.AssignmentTree;
import com.sun.source.tree.BinaryTree;
import com.sun.source.tree.ClassTree;
import com.sun.source.tree.CompilationUnitTree;
import com.sun.source.tree.CompoundAssignmentTree;
import com.sun.source.tree.ExpressionTree;
import com.sun.source.tree.LineMap;
import com.sun.source.tree.MethodInvocationTree;
import com.sun.source.tree.MethodTree;
import com.sun.source.tree.NewArrayTree;
import com.sun.source.tree.NewClassTree;
import com.sun.source.tree.Tree;
import com.sun.source.tree.UnaryTree;
import com.sun.source.tree.VariableTree;
import com.sun.source.util.JavacTask;
import com.sun.source.util.TreePath;
import com.sun.source.util.TreePathScanner;
import com.sun.source.util.Trees;
import java.nio.charset.StandardCharsets;
import java.nio.file.Files;
import java.nio.file.Path;
import java.util.EnumSet;
import java.util.HashSet;
import java.util.LinkedHashMap;
import java.util.LinkedHashSet;
import java.util.List;
import java.util.Map;
import java.util.Set;
import javax.lang.model.element.Element;
import javax.lang.model.element.ElementKind;
import javax.lang.model.element.Modifier;
import javax.lang.model.type.ArrayType;
import javax.lang.model.type.TypeKind;
import javax.lang.model.type.TypeMirror;
import javax.tools.JavaCompiler;
import javax.tools.StandardJavaFileManager;
import javax.tools.ToolProvider;

/** The rules of LANGUAGE.md that the source's own tree can tell; the source's path comes as -Dsource. */
public final class SourceTest extends TreePathScanner<Void, Void> {
    /** What the class uses of rule 4's library: whatever else that rule lists may be added here. */
    private static final Set<String> LIBRARY =
        Set.of("java.lang.Math.min", "java.lang.Math.max", "java.lang.System.arraycopy",
            "java.lang.String.length", "java.lang.String.charAt");
    private static final Set<String> TYPES = Set.of("int", "long", "short", "byte", "char", "boolean", "void", "java.lang.String");
    private static final Set<String> CONSTANTS = Set.of("int", "long", "boolean", "char", "java.lang.String",
        "int[]", "long[]", "char[]", "byte[]");
    private static final Set<Tree.Kind> BANNED = EnumSet.of(Tree.Kind.THROW, Tree.Kind.TRY, Tree.Kind.CATCH,
        Tree.Kind.SYNCHRONIZED, Tree.Kind.ASSERT, Tree.Kind.LAMBDA_EXPRESSION, Tree.Kind.MEMBER_REFERENCE,
        Tree.Kind.PACKAGE, Tree.Kind.IMPORT, Tree.Kind.ANNOTATION, Tree.Kind.FLOAT_LITERAL, Tree.Kind.DOUBLE_LITERAL);
    private static final int MOST_PARAMETERS = 7;
    private static final int MOST_LINES = 60;
    private static final int MOST_DEEP = 8;
    private static final int MOST_CLASSES = 12;
    private static final int MOST_FIELDS = 20;

    private final Due due = new Due();
    private final Trees trees;
    private final CompilationUnitTree unit;
    private final Map<Element, Set<Element>> calls = new LinkedHashMap<>();
    private final Set<String> faceNames = new HashSet<>();
    private int classes = 0;

    private SourceTest(Trees trees, CompilationUnitTree unit) {
        this.trees = trees;
        this.unit = unit;
    }

    public static void main(String[] args) throws Exception {
        Path source = Path.of(System.getProperty("source"));
        JavaCompiler compiler = ToolProvider.getSystemJavaCompiler();
        try (StandardJavaFileManager files = compiler.getStandardFileManager(null, null, null)) {
            JavacTask task = (JavacTask) compiler.getTask(null, files, null, List.of("-proc:none"), null,
                files.getJavaFileObjects(source));
            CompilationUnitTree unit = task.parse().iterator().next();
            task.analyze();
            new SourceTest(Trees.instance(task), unit).look(source);
        }
    }

    private void look(Path source) throws Exception {
        due.holds("rule 3: signs 1 to 127 alone", Files.readString(source, StandardCharsets.ISO_8859_1).chars()
            .allMatch(sign -> sign >= 1 && sign <= 127));
        due.is("rule 1: classes in the file", unit.getTypeDecls().size(), 1);
        for (Tree member : ((ClassTree) unit.getTypeDecls().get(0)).getMembers()) {
            if (member instanceof MethodTree method && method.getModifiers().getFlags().contains(Modifier.PUBLIC)) {
                faceNames.add(method.getName().toString());
            }
        }
        scan(unit, null);
        due.holds("rule 11: " + classes + " classes", classes <= MOST_CLASSES);
        for (Element method : calls.keySet()) {
            int deep = depth(method, new LinkedHashSet<>());
            due.holds("rule 11: " + method + " goes " + deep + " deep", deep <= MOST_DEEP);
        }
        due.end();
    }

    /** How many calls stand open at once, this one and the library's counted; the class has no recursion. */
    private int depth(Element method, Set<Element> open) {
        due.holds("rule 8: no recursion of " + method, !open.contains(method));
        int deepest = 0;
        if (open.add(method)) {
            for (Element called : calls.getOrDefault(method, Set.of())) {
                deepest = Math.max(deepest, depth(called, open));
            }
            open.remove(method);
        }
        return 1 + deepest;
    }

    @Override
    public Void scan(Tree tree, Void none) {
        due.holds("rule 2, 3, 6: no " + (tree == null ? "" : tree.getKind() + " at " + place(tree)),
            tree == null || !BANNED.contains(tree.getKind()));
        return super.scan(tree, none);
    }

    @Override
    public Void visitClass(ClassTree type, Void none) {
        classes++;
        Element element = trees.getElement(getCurrentPath());
        boolean isOuter = element.getEnclosingElement().getKind() == ElementKind.PACKAGE;
        Set<Modifier> flags = type.getModifiers().getFlags();
        if (isOuter) {
            due.holds("rule 1: " + element + " is public and final", flags.containsAll(Set.of(Modifier.PUBLIC, Modifier.FINAL)));
        } else {
            due.holds("rule 1, 2: " + element + " is static and no one else's", flags.contains(Modifier.STATIC)
                && !flags.contains(Modifier.PUBLIC) && !flags.contains(Modifier.PROTECTED) && isMemberOfOuter(element));
        }
        int fields = 0;
        for (Tree member : type.getMembers()) {
            due.holds("rule 5: a static block at " + place(member), member.getKind() != Tree.Kind.BLOCK);
            if (member instanceof VariableTree field && !field.getModifiers().getFlags().contains(Modifier.STATIC)) {
                fields++;
            }
            if (isOuter && (member instanceof VariableTree || member instanceof MethodTree)) {
                memberOfTheFace(member);
            }
        }
        due.holds("rule 11: " + element + " has " + fields + " fields", fields <= MOST_FIELDS);
        return super.visitClass(type, none);
    }

    private static boolean isMemberOfOuter(Element type) {
        Element outer = type.getEnclosingElement();
        return outer.getKind() == ElementKind.CLASS && outer.getEnclosingElement().getKind() == ElementKind.PACKAGE;
    }

    private void memberOfTheFace(Tree member) {
        Set<Modifier> flags = member instanceof VariableTree field ? field.getModifiers().getFlags()
            : ((MethodTree) member).getModifiers().getFlags();
        due.holds("rule 1: the member at " + place(member) + " is the face's, or private",
            flags.contains(Modifier.PRIVATE) || (member instanceof MethodTree && flags.contains(Modifier.PUBLIC)));
    }

    @Override
    public Void visitMethod(MethodTree method, Void none) {
        Element element = trees.getElement(getCurrentPath());
        calls.computeIfAbsent(element, e -> new LinkedHashSet<>());
        String name = method.getName().toString();
        due.holds("rule 11: " + name + " takes " + method.getParameters().size(), method.getParameters().size() <= MOST_PARAMETERS);
        LineMap lines = unit.getLineMap();
        long first = lines.getLineNumber(trees.getSourcePositions().getStartPosition(unit, method));
        long last = lines.getLineNumber(trees.getSourcePositions().getEndPosition(unit, method));
        due.holds("rule 11: " + name + " has " + (last - first + 1) + " lines", last - first + 1 <= MOST_LINES);
        due.holds("rule 1: " + name + " is a name of the face", element.getKind() == ElementKind.CONSTRUCTOR
            || method.getModifiers().getFlags().contains(Modifier.PUBLIC) || !faceNames.contains(name));
        due.holds("rule 6: " + name + " is an object's own", !Set.of("equals", "hashCode", "toString").contains(name));
        if (method.getReturnType() != null) {
            isType(new TreePath(getCurrentPath(), method.getReturnType()));
        }
        return super.visitMethod(method, none);
    }

    @Override
    public Void visitVariable(VariableTree variable, Void none) {
        isType(new TreePath(getCurrentPath(), variable.getType()));
        Element element = trees.getElement(getCurrentPath());
        if (element.getModifiers().contains(Modifier.STATIC)) {
            due.holds("rule 5: " + element + " is a constant", element.getModifiers().contains(Modifier.FINAL)
                && CONSTANTS.contains(element.asType().toString()) && variable.getInitializer() != null);
        }
        return super.visitVariable(variable, none);
    }

    private void isType(TreePath path) {
        TypeMirror type = trees.getTypeMirror(path);
        if (type instanceof ArrayType row) {
            type = row.getComponentType();
        }
        due.holds("rule 3: " + type + " at " + place(path.getLeaf()),
            TYPES.contains(type.toString()) || type.toString().startsWith("RumourBeds."));
    }

    @Override
    public Void visitMethodInvocation(MethodInvocationTree call, Void none) {
        Element called = trees.getElement(getCurrentPath());
        String owner = called.getEnclosingElement().toString();
        String name = owner + "." + called.getSimpleName();
        boolean isSuper = called.getKind() == ElementKind.CONSTRUCTOR;
        due.holds("rule 4: " + name + " at " + place(call),
            isSuper || owner.startsWith("RumourBeds") || LIBRARY.contains(name));
        isCalled(called);
        return super.visitMethodInvocation(call, none);
    }

    @Override
    public Void visitNewClass(NewClassTree made, Void none) {
        due.holds("rule 2: a class without a name at " + place(made), made.getClassBody() == null);
        isMadeOnce(made);
        isCalled(trees.getElement(getCurrentPath()));
        return super.visitNewClass(made, none);
    }

    @Override
    public Void visitNewArray(NewArrayTree made, Void none) {
        isMadeOnce(made);
        return super.visitNewArray(made, none);
    }

    /** Not a rule, but what the one room of all calls asks for: only constructors and fields make anything. */
    private void isMadeOnce(Tree made) {
        Element maker = openMethod();
        due.holds("room: made by a call at " + place(made), maker == null || maker.getKind() == ElementKind.CONSTRUCTOR);
    }

    private void isCalled(Element called) {
        Element caller = openMethod();
        if (caller != null) {
            calls.get(caller).add(called);
        }
    }

    /** The method that the current place is in; null in a field's initialiser. */
    private Element openMethod() {
        TreePath path = getCurrentPath();
        while (path != null && !(path.getLeaf() instanceof MethodTree)) {
            path = path.getParentPath();
        }
        return path == null ? null : trees.getElement(path);
    }

    @Override
    public Void visitBinary(BinaryTree binary, Void none) {
        boolean isOfTexts = isText(binary.getLeftOperand()) || isText(binary.getRightOperand());
        due.holds("rule 6, 10: texts with " + binary.getKind() + " at " + place(binary), !isOfTexts);
        return super.visitBinary(binary, none);
    }

    private boolean isText(ExpressionTree operand) {
        TypeMirror type = trees.getTypeMirror(new TreePath(getCurrentPath(), operand));
        return type != null && type.getKind() == TypeKind.DECLARED && type.toString().equals("java.lang.String");
    }

    @Override
    public Void visitAssignment(AssignmentTree assignment, Void none) {
        changesNoConstant(assignment.getVariable());
        return super.visitAssignment(assignment, none);
    }

    @Override
    public Void visitCompoundAssignment(CompoundAssignmentTree assignment, Void none) {
        changesNoConstant(assignment.getVariable());
        return super.visitCompoundAssignment(assignment, none);
    }

    @Override
    public Void visitUnary(UnaryTree unary, Void none) {
        Tree.Kind kind = unary.getKind();
        if (kind != Tree.Kind.UNARY_MINUS && kind != Tree.Kind.UNARY_PLUS && kind != Tree.Kind.LOGICAL_COMPLEMENT) {
            changesNoConstant(unary.getExpression());
        }
        return super.visitUnary(unary, none);
    }

    private void changesNoConstant(ExpressionTree target) {
        if (target instanceof ArrayAccessTree access) {
            Element row = trees.getElement(new TreePath(getCurrentPath(), access.getExpression()));
            due.holds("rule 5: " + row + " is changed at " + place(target),
                row == null || !row.getModifiers().contains(Modifier.STATIC));
        }
    }

    private String place(Tree tree) {
        return "line " + unit.getLineMap().getLineNumber(Math.max(0, trees.getSourcePositions().getStartPosition(unit, tree)));
    }
}
