import com.sun.source.tree.*;
import com.sun.source.util.TreePath;
import com.sun.source.util.TreePathScanner;
import com.sun.source.util.Trees;
import java.util.ArrayList;
import java.util.HashMap;
import java.util.HashSet;
import java.util.List;
import java.util.Map;
import java.util.Set;
import javax.lang.model.element.Element;
import javax.lang.model.element.ElementKind;
import javax.lang.model.element.ExecutableElement;
import javax.lang.model.element.Modifier;
import javax.lang.model.element.TypeElement;
import javax.lang.model.element.VariableElement;
import javax.lang.model.type.ArrayType;
import javax.lang.model.type.DeclaredType;
import javax.lang.model.type.TypeKind;
import javax.lang.model.type.TypeMirror;

/** Goes through the code once: tells what breaks a rule of LANGUAGE.md, and keeps what is counted afterwards. */
final class CodeLook extends TreePathScanner<Void, Void> {
    private static final Set<String> LIBRARY = Set.of("String.length", "String.charAt", "String.isEmpty",
            "String.equals", "String.indexOf", "String.substring", "String.toCharArray", "StringBuilder.append",
            "StringBuilder.charAt", "StringBuilder.setCharAt", "StringBuilder.setLength", "StringBuilder.deleteCharAt",
            "StringBuilder.reverse", "StringBuilder.length", "StringBuilder.toString", "ArrayList.add", "ArrayList.get",
            "ArrayList.set", "ArrayList.remove", "ArrayList.size", "ArrayList.isEmpty", "ArrayList.clear", "List.add",
            "List.get", "List.set", "List.remove", "List.size", "List.isEmpty", "List.clear", "System.arraycopy",
            "Arrays.copyOf", "Arrays.copyOfRange", "Arrays.fill");
    private static final Set<String> NUMBERS = Set.of("Math", "Integer", "Long");
    private static final Set<String> MAY_BE_MADE = Set.of("StringBuilder", "ArrayList", "String");
    private static final Set<TypeKind> PLAIN = Set.of(TypeKind.INT, TypeKind.LONG, TypeKind.SHORT, TypeKind.BYTE,
            TypeKind.CHAR, TypeKind.BOOLEAN);

    final List<ClassTree> classes = new ArrayList<>();
    final List<MethodTree> methods = new ArrayList<>();
    /** For each method and constructor of the class those of its own that it calls. */
    final Map<Element, Set<Element>> calls = new HashMap<>();
    private final Due due;
    private final CompilationUnitTree file;
    private final Trees trees;

    CodeLook(Due due, CompilationUnitTree file, Trees trees) {
        this.due = due;
        this.file = file;
        this.trees = trees;
    }

    int fieldsOf(ClassTree c) {
        int fields = 0;
        for (Tree member : c.getMembers()) {
            if (member instanceof VariableTree v && !v.getModifiers().getFlags().contains(Modifier.STATIC)) {
                fields++;
            }
        }
        return fields;
    }

    private void rule(int number, String what, boolean so, Tree at) {
        long line = file.getLineMap().getLineNumber(trees.getSourcePositions().getStartPosition(file, at));
        due.holds("rule " + number + ", line " + line + ": " + what, so);
    }

    private void never(int number, Tree at) {
        rule(number, "there is no " + at.getKind(), false, at);
    }

    private Element element() {
        return trees.getElement(getCurrentPath());
    }

    private TypeMirror typeOf(Tree tree) {
        return trees.getTypeMirror(new TreePath(getCurrentPath(), tree));
    }

    private boolean isOwn(Element e) {
        Element outer = e;
        while (outer != null && outer.getEnclosingElement() != null
                && outer.getEnclosingElement().getKind() != ElementKind.PACKAGE) {
            outer = outer.getEnclosingElement();
        }
        return outer != null && outer.getSimpleName().contentEquals("TurretPunch");
    }

    // ---- rules 1, 2: the classes

    @Override
    public Void visitClass(ClassTree c, Void none) {
        classes.add(c);
        Set<Modifier> flags = element().getModifiers();
        rule(12, c.getSimpleName() + " is final, so that none of its methods is another's", flags.contains(Modifier.FINAL), c);
        if (getCurrentPath().getParentPath().getLeaf() != file) {
            rule(2, "a class stands in the class itself", getCurrentPath().getParentPath().getLeaf() instanceof ClassTree, c);
            rule(2, c.getSimpleName() + " is static", flags.contains(Modifier.STATIC), c);
            rule(1, c.getSimpleName() + " is not visible", !flags.contains(Modifier.PUBLIC)
                    && !flags.contains(Modifier.PROTECTED), c);
        }
        return super.visitClass(c, none);
    }

    @Override
    public Void visitLambdaExpression(LambdaExpressionTree t, Void none) {
        never(2, t);
        return super.visitLambdaExpression(t, none);
    }

    @Override
    public Void visitMemberReference(MemberReferenceTree t, Void none) {
        never(2, t);
        return super.visitMemberReference(t, none);
    }

    // ---- rules 3, 5: types and static fields

    @Override
    public Void visitMethod(MethodTree m, Void none) {
        methods.add(m);
        ExecutableElement method = (ExecutableElement) element();
        calls.computeIfAbsent(method, e -> new HashSet<>());
        boolean answersNothing = method.getReturnType().getKind() == TypeKind.VOID;
        rule(3, m.getName() + " answers a type that may be", answersNothing || isType(method.getReturnType()), m);
        rule(6, m.getName() + " throws nothing", m.getThrows().isEmpty(), m);
        return super.visitMethod(m, none);
    }

    @Override
    public Void visitVariable(VariableTree v, Void none) {
        VariableElement variable = (VariableElement) element();
        rule(3, v.getName() + " is of a type that may be", isType(variable.asType()), v);
        if (variable.getKind() == ElementKind.FIELD && variable.getModifiers().contains(Modifier.STATIC)) {
            rule(5, v.getName() + " is final", variable.getModifiers().contains(Modifier.FINAL), v);
            rule(5, v.getName() + " is a constant", variable.getConstantValue() != null, v);
        }
        return super.visitVariable(v, none);
    }

    @Override
    public Void visitBlock(BlockTree b, Void none) {
        rule(5, "no static initialiser", !b.isStatic(), b);
        return super.visitBlock(b, none);
    }

    /** Plain numbers (no doubles, no floats), texts, own classes, and arrays and lists as rule 3 has them. */
    private boolean isType(TypeMirror type) {
        if (type.getKind() == TypeKind.ARRAY) {
            TypeMirror inner = ((ArrayType) type).getComponentType();
            return PLAIN.contains(inner.getKind()) || isOwnType(inner)
                    || inner.getKind() == TypeKind.ARRAY && PLAIN.contains(((ArrayType) inner).getComponentType().getKind());
        }
        if (PLAIN.contains(type.getKind()) || isOwnType(type)) {
            return true;
        }
        if (!(type instanceof DeclaredType declared)) {
            return false;
        }
        String name = declared.asElement().toString();
        if (name.equals("java.util.List") || name.equals("java.util.ArrayList")) {
            return declared.getTypeArguments().size() == 1 && (isOwnType(declared.getTypeArguments().get(0))
                    || declared.getTypeArguments().get(0).toString().equals("java.lang.Integer"));
        }
        return name.equals("java.lang.String") || name.equals("java.lang.StringBuilder");
    }

    private boolean isOwnType(TypeMirror type) {
        return type instanceof DeclaredType declared && isOwn(declared.asElement());
    }

    // ---- rules 4, 12: the library, and what is made

    @Override
    public Void visitMethodInvocation(MethodInvocationTree t, Void none) {
        if (element() instanceof ExecutableElement called) {
            if (isOwn(called)) {
                calledFromHere(called);
            } else if (called.getKind() != ElementKind.CONSTRUCTOR) {
                rule(4, called + " may be called", isOfTheLibrary(called), t);
            }
        }
        return super.visitMethodInvocation(t, none);
    }

    private static boolean isOfTheLibrary(ExecutableElement called) {
        Element of = called.getEnclosingElement();
        String name = called.getSimpleName().toString();
        if (LIBRARY.contains(of.getSimpleName() + "." + name)) {
            return true;
        }
        return NUMBERS.contains(of.getSimpleName().toString()) && called.getModifiers().contains(Modifier.STATIC)
                && !name.endsWith("Exact") && called.getParameters().stream()
                .allMatch(p -> p.asType().getKind() == TypeKind.INT || p.asType().getKind() == TypeKind.LONG);
    }

    private void calledFromHere(Element called) {
        Tree method = methodAround();
        if (method != null) {
            calls.computeIfAbsent(trees.getElement(pathOf(method)), e -> new HashSet<>()).add(called);
        }
    }

    private TreePath pathOf(Tree around) {
        TreePath path = getCurrentPath();
        while (path.getLeaf() != around) {
            path = path.getParentPath();
        }
        return path;
    }

    private MethodTree methodAround() {
        for (Tree t : getCurrentPath()) {
            if (t instanceof MethodTree m) {
                return m;
            }
        }
        return null;
    }

    private void isMadeByAConstructor(Tree t) {
        MethodTree around = methodAround();
        rule(12, "only constructors and fields make something", around == null || around.getReturnType() == null, t);
    }

    @Override
    public Void visitNewClass(NewClassTree t, Void none) {
        isMadeByAConstructor(t);
        Element made = element().getEnclosingElement();
        rule(4, made + " may be made", isOwn(made) || MAY_BE_MADE.contains(made.getSimpleName().toString()), t);
        if (isOwn(made)) {
            calledFromHere(element());
        }
        return super.visitNewClass(t, none);
    }

    @Override
    public Void visitNewArray(NewArrayTree t, Void none) {
        isMadeByAConstructor(t);
        return super.visitNewArray(t, none);
    }

    @Override
    public Void visitImport(ImportTree t, Void none) {
        rule(4, t + " may be", Set.of("java.util.Arrays", "java.util.ArrayList", "java.util.List", "java.util.Iterator")
                .contains(t.getQualifiedIdentifier().toString()) && !t.isStatic(), t);
        return super.visitImport(t, none);
    }

    // ---- rules 6, 10: what is no statement or sign of it

    @Override
    public Void visitThrow(ThrowTree t, Void none) {
        never(6, t);
        return super.visitThrow(t, none);
    }

    @Override
    public Void visitTry(TryTree t, Void none) {
        never(6, t);
        return super.visitTry(t, none);
    }

    @Override
    public Void visitSynchronized(SynchronizedTree t, Void none) {
        never(6, t);
        return super.visitSynchronized(t, none);
    }

    @Override
    public Void visitAssert(AssertTree t, Void none) {
        never(6, t);
        return super.visitAssert(t, none);
    }

    @Override
    public Void visitTypeCast(TypeCastTree t, Void none) {
        rule(6, "casts are among plain numbers", PLAIN.contains(typeOf(t.getType()).getKind()), t);
        return super.visitTypeCast(t, none);
    }

    @Override
    public Void visitBinary(BinaryTree t, Void none) {
        boolean texts = isNoPlain(t.getLeftOperand()) || isNoPlain(t.getRightOperand());
        rule(10, "texts and objects are not joined or compared by " + t.getKind(), !texts, t);
        return super.visitBinary(t, none);
    }

    @Override
    public Void visitCompoundAssignment(CompoundAssignmentTree t, Void none) {
        rule(10, "texts are not joined by " + t.getKind(), !isNoPlain(t.getVariable()), t);
        return super.visitCompoundAssignment(t, none);
    }

    private boolean isNoPlain(Tree operand) {
        return !PLAIN.contains(typeOf(operand).getKind());
    }

    // ---- rule 9: loops

    @Override
    public Void visitWhileLoop(WhileLoopTree t, Void none) {
        never(9, t);
        return super.visitWhileLoop(t, none);
    }

    @Override
    public Void visitDoWhileLoop(DoWhileLoopTree t, Void none) {
        never(9, t);
        return super.visitDoWhileLoop(t, none);
    }

    /** One counter that goes up by one, is looked at by the condition, and is left alone by what is inside. */
    @Override
    public Void visitForLoop(ForLoopTree t, Void none) {
        boolean oneCounter = t.getInitializer().size() == 1 && t.getInitializer().get(0) instanceof VariableTree
                && t.getUpdate().size() == 1 && t.getCondition() != null;
        rule(9, "a loop has one counter", oneCounter, t);
        if (oneCounter) {
            String counter = ((VariableTree) t.getInitializer().get(0)).getName().toString();
            rule(9, counter + " goes up by one", t.getUpdate().get(0).toString().replace(";", "").equals(counter + "++"), t);
            rule(9, counter + " has a bound", isBelow(t.getCondition(), counter), t);
            rule(9, counter + " is left alone in the loop", !isChangedIn(t.getStatement(), counter), t);
        }
        return super.visitForLoop(t, none);
    }

    /** Whether the condition, or one that must hold with others, is: the counter is below something. */
    private static boolean isBelow(Tree condition, String counter) {
        if (condition.getKind() == Tree.Kind.CONDITIONAL_AND) {
            BinaryTree both = (BinaryTree) condition;
            return isBelow(both.getLeftOperand(), counter) || isBelow(both.getRightOperand(), counter);
        }
        return condition.getKind() == Tree.Kind.LESS_THAN
                && ((BinaryTree) condition).getLeftOperand().toString().equals(counter);
    }

    private static boolean isChangedIn(Tree inside, String counter) {
        return inside.toString().matches("(?s).*\\b" + counter + "(\\+\\+|--| ([-+*/%&|^]|<<|>>)?= ).*")
                || inside.toString().matches("(?s).*(\\+\\+|--)" + counter + "\\b.*");
    }
}
