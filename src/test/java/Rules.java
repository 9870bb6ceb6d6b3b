import com.sun.source.tree.ArrayAccessTree;
import com.sun.source.tree.AssertTree;
import com.sun.source.tree.AssignmentTree;
import com.sun.source.tree.BinaryTree;
import com.sun.source.tree.BlockTree;
import com.sun.source.tree.ClassTree;
import com.sun.source.tree.CompilationUnitTree;
import com.sun.source.tree.CompoundAssignmentTree;
import com.sun.source.tree.DoWhileLoopTree;
import com.sun.source.tree.EnhancedForLoopTree;
import com.sun.source.tree.ExpressionTree;
import com.sun.source.tree.ForLoopTree;
import com.sun.source.tree.IdentifierTree;
import com.sun.source.tree.LambdaExpressionTree;
import com.sun.source.tree.LiteralTree;
import com.sun.source.tree.MemberReferenceTree;
import com.sun.source.tree.MemberSelectTree;
import com.sun.source.tree.MethodInvocationTree;
import com.sun.source.tree.MethodTree;
import com.sun.source.tree.NewArrayTree;
import com.sun.source.tree.NewClassTree;
import com.sun.source.tree.ParenthesizedTree;
import com.sun.source.tree.SynchronizedTree;
import com.sun.source.tree.ThrowTree;
import com.sun.source.tree.Tree;
import com.sun.source.tree.TryTree;
import com.sun.source.tree.TypeCastTree;
import com.sun.source.tree.UnaryTree;
import com.sun.source.tree.VariableTree;
import com.sun.source.tree.WhileLoopTree;
import com.sun.source.util.JavacTask;
import com.sun.source.util.TreePath;
import com.sun.source.util.TreePathScanner;
import com.sun.source.util.Trees;
import java.io.IOException;
import java.net.URI;
import java.util.ArrayList;
import java.util.List;
import java.util.Set;
import java.util.TreeSet;
import javax.lang.model.element.Element;
import javax.lang.model.element.ElementKind;
import javax.lang.model.element.ExecutableElement;
import javax.lang.model.element.Modifier;
import javax.lang.model.element.VariableElement;
import javax.lang.model.type.ArrayType;
import javax.lang.model.type.DeclaredType;
import javax.lang.model.type.TypeKind;
import javax.lang.model.type.TypeMirror;
import javax.tools.JavaCompiler;
import javax.tools.JavaFileObject;
import javax.tools.SimpleJavaFileObject;
import javax.tools.ToolProvider;

/** Reads a source as the compiler does, and says what in it is outside the rules of LANGUAGE.md. */
final class Rules extends TreePathScanner<Void, Void> {
    private static final int MOST_CLASSES = 12;
    private static final int MOST_FIELDS = 20;
    private static final int MOST_PARAMETERS = 7;
    private static final int MOST_LINES = 60;
    private static final int MOST_DEEP = 8;

    /** The library that rule 4 lists, as far as anybody here has wanted it. */
    private static final Set<String> LIBRARY = Set.of(
        "String.length()", "String.charAt(int)", "String.isEmpty()", "String.equals(java.lang.Object)",
        "String.indexOf(int)", "String.substring(int,int)", "String.toCharArray()",
        "Integer.bitCount(int)", "Long.bitCount(long)", "Long.numberOfTrailingZeros(long)",
        "Math.max(int,int)", "Math.max(long,long)", "Math.min(int,int)", "Math.min(long,long)",
        "Math.abs(int)", "Math.abs(long)", "System.arraycopy(java.lang.Object,int,java.lang.Object,int,int)",
        "Arrays.copyOf(int[],int)", "Arrays.copyOf(long[],int)", "Arrays.fill(int[],int)", "Arrays.fill(long[],long)",
        "Object.<init>()");
    /** The one division by what is no constant: its method asks for 0 ahead of it. */
    private static final Set<String> ASKED_DIVISIONS = Set.of("combine: a / b");

    private final Trees trees;
    private final CompilationUnitTree unit;
    private final CallDepth depth = new CallDepth();
    private final List<String> complaints = new ArrayList<>();
    private final Set<String> faceNames = new TreeSet<>();
    private final List<String> ownNames = new ArrayList<>();
    private int classes = 0;
    private int loops = 0;
    private String method = "";

    private Rules(Trees trees, CompilationUnitTree unit) {
        this.trees = trees;
        this.unit = unit;
    }

    static List<String> brokenBy(String source) throws IOException {
        JavaCompiler compiler = ToolProvider.getSystemJavaCompiler();
        JavaFileObject file = new SimpleJavaFileObject(URI.create("string:///LateGlass.java"), JavaFileObject.Kind.SOURCE) {
            @Override
            public CharSequence getCharContent(boolean ignored) {
                return source;
            }
        };
        List<String> errors = new ArrayList<>();
        JavacTask task = (JavacTask) compiler.getTask(null, null, d -> {
            if (d.getKind() == javax.tools.Diagnostic.Kind.ERROR) {
                errors.add("does not compile: " + d);
            }
        }, List.of("-proc:none"), null, List.of(file));
        CompilationUnitTree unit = task.parse().iterator().next();
        task.analyze();
        if (!errors.isEmpty()) {
            return errors;
        }
        Rules rules = new Rules(Trees.instance(task), unit);
        rules.scan(unit, null);
        rules.end();
        return rules.complaints;
    }

    private void end() {
        hold(classes <= MOST_CLASSES, 11, classes + " classes");
        hold(unit.getTypeDecls().size() == 1 && unit.getPackage() == null, 1, "one class without a package");
        for (String name : ownNames) {
            hold(!faceNames.contains(name), 1, "a public name: " + name);
        }
        hold(depth.deepest() <= MOST_DEEP, 11, depth.deepest() + " calls deep");
        for (String name : depth.recursive()) {
            hold(name.contains(" depth"), 8, "carries no depth: " + name);
        }
    }

    private void hold(boolean is, int rule, String what) {
        if (!is) {
            complaints.add("rule " + rule + ": " + what + (method.isEmpty() ? "" : " in " + method));
        }
    }

    private Element element(Tree tree) {
        return trees.getElement(new TreePath(getCurrentPath(), tree));
    }

    private TypeMirror typeOf(Tree tree) {
        return trees.getTypeMirror(new TreePath(getCurrentPath(), tree));
    }

    private static boolean isOwn(Element of) {
        Element outer = of;
        while (outer.getEnclosingElement() != null && outer.getEnclosingElement().getKind() != ElementKind.PACKAGE) {
            outer = outer.getEnclosingElement();
        }
        return outer.getSimpleName().contentEquals("LateGlass");
    }

    private static String simple(Element type) {
        return type.getSimpleName().toString();
    }

    // Rules 1, 2, 11: classes and what is in them.

    @Override
    public Void visitClass(ClassTree tree, Void none) {
        Element type = trees.getElement(getCurrentPath());
        classes++;
        boolean isTop = getCurrentPath().getParentPath().getLeaf() == unit;
        boolean isInside = type.getEnclosingElement().getKind().isClass();
        hold(isTop || isInside && type.getModifiers().contains(Modifier.STATIC), 2, "not static: " + type);
        Set<Modifier> modifiers = type.getModifiers();
        if (isTop) {
            hold(modifiers.contains(Modifier.PUBLIC) && modifiers.contains(Modifier.FINAL), 1, "public and final");
        } else {
            hold(!modifiers.contains(Modifier.PUBLIC) && !modifiers.contains(Modifier.PROTECTED), 1, "too open: " + type);
        }
        int fields = 0;
        for (Tree member : tree.getMembers()) {
            fields += member instanceof VariableTree v && !v.getModifiers().getFlags().contains(Modifier.STATIC) ? 1 : 0;
        }
        hold(fields <= MOST_FIELDS, 11, fields + " fields of " + type);
        return super.visitClass(tree, none);
    }

    @Override
    public Void visitMethod(MethodTree tree, Void none) {
        ExecutableElement element = (ExecutableElement) trees.getElement(getCurrentPath());
        boolean isTop = simple(element.getEnclosingElement()).equals("LateGlass");
        boolean isPublic = element.getModifiers().contains(Modifier.PUBLIC);
        method = simple(element);
        if (isTop && isPublic) {
            faceNames.add(method);
        } else if (element.getKind() == ElementKind.METHOD) {
            ownNames.add(method);
            hold(!isTop || element.getModifiers().contains(Modifier.PRIVATE), 1, "visible: " + method);
        }
        hold(tree.getParameters().size() <= MOST_PARAMETERS, 11, "parameters");
        hold(tree.getThrows().isEmpty(), 6, "throws");
        hold(lines(tree) <= MOST_LINES, 11, lines(tree) + " lines");
        hold(!Set.of("equals", "hashCode", "toString").contains(method), 6, "of its own");
        depth.enter(nodeOf(element));
        super.visitMethod(tree, none);
        method = "";
        return null;
    }

    private long lines(Tree tree) {
        long from = trees.getSourcePositions().getStartPosition(unit, tree);
        long to = trees.getSourcePositions().getEndPosition(unit, tree);
        return unit.getLineMap().getLineNumber(to) - unit.getLineMap().getLineNumber(from) + 1;
    }

    private static String nodeOf(ExecutableElement element) {
        StringBuilder node = new StringBuilder();
        node.append(simple(element.getEnclosingElement())).append('.').append(element.getSimpleName());
        for (VariableElement parameter : element.getParameters()) {
            node.append(' ').append(parameter.asType()).append(' ').append(parameter.getSimpleName());
        }
        return node.toString();
    }

    @Override
    public Void visitBlock(BlockTree tree, Void none) {
        hold(!tree.isStatic(), 5, "static block");
        return super.visitBlock(tree, none);
    }

    // Rules 3, 5: types and static fields.

    @Override
    public Void visitVariable(VariableTree tree, Void none) {
        Element element = trees.getElement(getCurrentPath());
        hold(isAllowed(element.asType()), 3, "type of " + tree);
        if (element.getKind() == ElementKind.FIELD) {
            field(tree, (VariableElement) element);
        }
        return super.visitVariable(tree, none);
    }

    private void field(VariableTree tree, VariableElement element) {
        Set<Modifier> modifiers = element.getModifiers();
        Element owner = element.getEnclosingElement();
        boolean isNone = simple(element).equals("NONE");
        hold(!simple(owner).equals("LateGlass") || isNone || modifiers.contains(Modifier.PRIVATE), 1, "visible: " + tree);
        if (modifiers.contains(Modifier.STATIC)) {
            boolean isArray = tree.getInitializer() instanceof NewArrayTree made && made.getInitializers() != null
                && made.getInitializers().stream().allMatch(e -> constantOf(e) != null);
            hold(modifiers.contains(Modifier.FINAL), 5, "not final: " + tree);
            hold(element.getConstantValue() != null || isArray, 5, "no constant: " + tree);
        } else {
            depth.enter(simple(owner) + ".<init>");
        }
    }

    private static boolean isAllowed(TypeMirror type) {
        if (type.getKind().isPrimitive()) {
            return type.getKind() != TypeKind.DOUBLE && type.getKind() != TypeKind.FLOAT;
        }
        if (type instanceof ArrayType array) {
            TypeMirror inner = array.getComponentType();
            boolean isTwo = inner instanceof ArrayType two && two.getComponentType().getKind().isPrimitive();
            return isTwo || isAllowed(inner) && !(inner instanceof ArrayType) && !inner.toString().startsWith("java.");
        }
        if (type instanceof DeclaredType declared) {
            String name = declared.toString();
            return isOwn(declared.asElement()) || Set.of("java.lang.String", "java.lang.StringBuilder").contains(name);
        }
        return false;
    }

    private Object constantOf(Tree tree) {
        if (tree instanceof LiteralTree literal) {
            return literal.getValue();
        }
        if (tree instanceof UnaryTree unary) {
            return constantOf(unary.getExpression());
        }
        Element element = element(tree);
        return element instanceof VariableElement variable ? variable.getConstantValue() : null;
    }

    private boolean isStaticArray(Tree tree) {
        Element element = element(tree);
        return element instanceof VariableElement variable && element.getKind() == ElementKind.FIELD
            && element.getModifiers().contains(Modifier.STATIC) && variable.asType().getKind() == TypeKind.ARRAY;
    }

    /** A static array may be read by its index and asked for its length, nothing else. */
    @Override
    public Void visitIdentifier(IdentifierTree tree, Void none) {
        Element element = trees.getElement(getCurrentPath());
        boolean isArray = element instanceof VariableElement && element.getKind() == ElementKind.FIELD
            && element.getModifiers().contains(Modifier.STATIC) && element.asType().getKind() == TypeKind.ARRAY;
        Tree parent = getCurrentPath().getParentPath().getLeaf();
        hold(!isArray || parent instanceof ArrayAccessTree || parent instanceof MemberSelectTree, 5, "hands out " + tree);
        return super.visitIdentifier(tree, none);
    }

    private void written(ExpressionTree target) {
        hold(!(target instanceof ArrayAccessTree at) || !isStaticArray(at.getExpression()), 5, "changes " + target);
    }

    @Override
    public Void visitAssignment(AssignmentTree tree, Void none) {
        written(tree.getVariable());
        return super.visitAssignment(tree, none);
    }

    @Override
    public Void visitUnary(UnaryTree tree, Void none) {
        boolean writes = tree.getKind().name().contains("CREMENT");
        if (writes) {
            written(tree.getExpression());
        }
        return super.visitUnary(tree, none);
    }

    @Override
    public Void visitCompoundAssignment(CompoundAssignmentTree tree, Void none) {
        written(tree.getVariable());
        boolean divides = Set.of(Tree.Kind.DIVIDE_ASSIGNMENT, Tree.Kind.REMAINDER_ASSIGNMENT).contains(tree.getKind());
        hold(!divides || isSafeDivisor(tree.getExpression()), 7, "divides: " + tree);
        hold(!typeOf(tree.getVariable()).toString().equals("java.lang.String"), 10, "joins: " + tree);
        return super.visitCompoundAssignment(tree, none);
    }

    // Rules 4, 12: what is called and made.

    @Override
    public Void visitMethodInvocation(MethodInvocationTree tree, Void none) {
        called((ExecutableElement) element(tree.getMethodSelect()));
        return super.visitMethodInvocation(tree, none);
    }

    private void called(ExecutableElement element) {
        if (isOwn(element)) {
            depth.call(nodeOf(element));
        } else {
            List<String> types = new ArrayList<>();
            element.getParameters().forEach(p -> types.add(p.asType().toString()));
            String name = simple(element.getEnclosingElement()) + "." + element.getSimpleName()
                + "(" + String.join(",", types) + ")";
            hold(LIBRARY.contains(name), 4, name);
        }
    }

    @Override
    public Void visitNewClass(NewClassTree tree, Void none) {
        hold(tree.getClassBody() == null, 2, "anonymous");
        hold(loops == 0 || getCurrentPath().getParentPath().getLeaf() instanceof com.sun.source.tree.ReturnTree, 12,
            "makes in a loop: " + tree);
        Element element = trees.getElement(getCurrentPath());
        if (element instanceof ExecutableElement maker) {
            called(maker);
            depth.call(simple(maker.getEnclosingElement()) + ".<init>");
        }
        return super.visitNewClass(tree, none);
    }

    @Override
    public Void visitNewArray(NewArrayTree tree, Void none) {
        hold(loops == 0, 12, "makes in a loop: " + tree);
        return super.visitNewArray(tree, none);
    }

    @Override
    public Void visitLiteral(LiteralTree tree, Void none) {
        if (tree.getValue() instanceof String text) {
            hold(text.chars().allMatch(sign -> sign > 0 && sign < 128), 4, "signs of " + text);
        }
        hold(!(tree.getValue() instanceof Double) && !(tree.getValue() instanceof Float), 3, "double " + tree);
        return super.visitLiteral(tree, none);
    }

    // Rules 2, 6: what there is none of.

    @Override
    public Void visitLambdaExpression(LambdaExpressionTree tree, Void none) {
        hold(false, 2, "lambda");
        return null;
    }

    @Override
    public Void visitMemberReference(MemberReferenceTree tree, Void none) {
        hold(false, 2, "method reference");
        return null;
    }

    @Override
    public Void visitThrow(ThrowTree tree, Void none) {
        hold(false, 6, "throw");
        return null;
    }

    @Override
    public Void visitTry(TryTree tree, Void none) {
        hold(false, 6, "try");
        return null;
    }

    @Override
    public Void visitSynchronized(SynchronizedTree tree, Void none) {
        hold(false, 6, "synchronized");
        return null;
    }

    @Override
    public Void visitAssert(AssertTree tree, Void none) {
        hold(false, 6, "assert");
        return null;
    }

    @Override
    public Void visitTypeCast(TypeCastTree tree, Void none) {
        hold(typeOf(tree.getType()).getKind().isPrimitive(), 6, "cast " + tree);
        return super.visitTypeCast(tree, none);
    }

    // Rules 6, 7, 10: signs between two.

    @Override
    public Void visitBinary(BinaryTree tree, Void none) {
        String left = String.valueOf(typeOf(tree.getLeftOperand()));
        String right = String.valueOf(typeOf(tree.getRightOperand()));
        switch (tree.getKind()) {
            case DIVIDE, REMAINDER -> hold(isSafeDivisor(tree.getRightOperand())
                || ASKED_DIVISIONS.contains(method + ": " + tree), 7, "divides: " + tree);
            case PLUS -> hold(!left.equals("java.lang.String") && !right.equals("java.lang.String"), 10, "joins: " + tree);
            case EQUAL_TO, NOT_EQUAL_TO -> hold(!left.startsWith("java.lang.") || !right.startsWith("java.lang."), 6,
                "compares: " + tree);
            default -> { }
        }
        return super.visitBinary(tree, none);
    }

    private boolean isSafeDivisor(Tree tree) {
        Tree bare = tree instanceof ParenthesizedTree p ? p.getExpression() : tree;
        return constantOf(bare) instanceof Number number && number.longValue() != 0;
    }

    // Rule 9: loops.

    private static boolean isTrue(Tree condition) {
        Tree bare = condition instanceof ParenthesizedTree p ? p.getExpression() : condition;
        return bare == null || bare instanceof LiteralTree;
    }

    @Override
    public Void visitWhileLoop(WhileLoopTree tree, Void none) {
        hold(!isTrue(tree.getCondition()), 9, "no bound");
        loops++;
        super.visitWhileLoop(tree, none);
        loops--;
        return null;
    }

    @Override
    public Void visitDoWhileLoop(DoWhileLoopTree tree, Void none) {
        hold(!isTrue(tree.getCondition()), 9, "no bound");
        loops++;
        super.visitDoWhileLoop(tree, none);
        loops--;
        return null;
    }

    @Override
    public Void visitForLoop(ForLoopTree tree, Void none) {
        hold(!isTrue(tree.getCondition()), 9, "no bound");
        loops++;
        super.visitForLoop(tree, none);
        loops--;
        return null;
    }

    @Override
    public Void visitEnhancedForLoop(EnhancedForLoopTree tree, Void none) {
        loops++;
        super.visitEnhancedForLoop(tree, none);
        loops--;
        return null;
    }
}
