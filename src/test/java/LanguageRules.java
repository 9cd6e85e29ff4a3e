import com.sun.source.tree.*;
import com.sun.source.util.JavacTask;
import com.sun.source.util.TreePath;
import com.sun.source.util.TreePathScanner;
import com.sun.source.util.Trees;
import java.io.IOException;
import java.net.URI;
import java.util.ArrayList;
import java.util.List;
import java.util.Map;
import java.util.Set;
import java.util.TreeSet;
import javax.lang.model.element.Element;
import javax.lang.model.element.ElementKind;
import javax.lang.model.element.ExecutableElement;
import javax.lang.model.element.Modifier;
import javax.lang.model.element.TypeElement;
import javax.lang.model.element.VariableElement;
import javax.lang.model.type.ArrayType;
import javax.lang.model.type.DeclaredType;
import javax.lang.model.type.TypeKind;
import javax.lang.model.type.TypeMirror;
import javax.tools.DiagnosticCollector;
import javax.tools.JavaFileObject;
import javax.tools.SimpleJavaFileObject;
import javax.tools.ToolProvider;

/**
 * Reads a program with the compiler's own eyes and tells what LANGUAGE.md rules out in it, each fault with the rule's
 * number ahead. Where a rule hangs on what was tested before (a divisor, a local class), this asks for more than the
 * rule does: that none is there at all.
 */
final class LanguageRules extends TreePathScanner<Void, Void> {
    private static final int MOST_PARAMETERS = 7;
    private static final int MOST_LINES = 60;
    private static final int MOST_CLASSES = 12;
    private static final int MOST_FIELDS = 20;
    private static final Set<String> THROWN = Set.of("IllegalStateException", "IllegalArgumentException",
            "IndexOutOfBoundsException", "ArithmeticException", "UnsupportedOperationException",
            "NoSuchElementException", "RuntimeException");
    private static final Set<String> IMPORTED = Set.of("java.util.NoSuchElementException", "java.util.ArrayList",
            "java.util.List", "java.util.Arrays", "java.util.Iterator");
    private static final Map<String, Set<String>> LIBRARY = Map.of(
            "String", Set.of("length", "charAt", "isEmpty", "equals", "indexOf", "substring", "toCharArray"),
            "StringBuilder", Set.of("append", "charAt", "setCharAt", "setLength", "deleteCharAt", "reverse", "length",
                    "toString"),
            "ArrayList", Set.of("add", "get", "set", "remove", "size", "isEmpty", "clear"),
            "List", Set.of("add", "get", "set", "remove", "size", "isEmpty", "clear", "of"),
            "Integer", Set.of("compare", "max", "min", "bitCount", "signum", "intValue", "valueOf"),
            "Long", Set.of("compare", "max", "min", "bitCount", "signum"),
            "Math", Set.of("max", "min", "abs", "floorDiv", "floorMod"),
            "System", Set.of("arraycopy"),
            "Arrays", Set.of("copyOf", "copyOfRange", "fill"),
            "Iterator", Set.of("hasNext", "next"));
    private static final Set<String> FRACTIONS = Set.of("java.lang.Math", "java.lang.Integer", "java.lang.Long");

    private final Set<String> face;
    private final CompilationUnitTree unit;
    private final Trees trees;
    private final List<String> faults = new ArrayList<>();
    private final CallGraph calls = new CallGraph();
    private int classes;

    private LanguageRules(Set<String> face, CompilationUnitTree unit, Trees trees) {
        this.face = face;
        this.unit = unit;
        this.trees = trees;
    }

    /** The face holds the names of the methods that may be public. */
    static List<String> faultsOf(String program, Set<String> face) throws IOException {
        DiagnosticCollector<JavaFileObject> told = new DiagnosticCollector<>();
        JavaFileObject file = new SimpleJavaFileObject(URI.create("string:///Thermographica.java"),
                JavaFileObject.Kind.SOURCE) {
            @Override
            public CharSequence getCharContent(boolean isLenient) {
                return program;
            }
        };
        JavacTask task = (JavacTask) ToolProvider.getSystemJavaCompiler().getTask(null, null, told,
                List.of("-proc:none", "--release", "17"), null, List.of(file));
        CompilationUnitTree unit = task.parse().iterator().next();
        task.analyze();
        told.getDiagnostics().stream().filter(d -> d.getKind() == javax.tools.Diagnostic.Kind.ERROR).forEach(d -> {
            throw new AssertionError(d + "\n" + program);
        });
        LanguageRules rules = new LanguageRules(face, unit, Trees.instance(task));
        rules.scan(unit, null);
        rules.calls.addFaults(rules.faults);
        rules.need(rules.classes <= MOST_CLASSES, 11, "there are " + rules.classes + " classes");
        return rules.faults;
    }

    private void need(boolean holds, int rule, String fault) {
        if (!holds) {
            faults.add(rule + ": " + fault);
        }
    }

    private void rule(int rule, String fault) {
        need(false, rule, fault);
    }

    private TypeMirror typeOf(Tree tree) {
        return trees.getTypeMirror(new TreePath(getCurrentPath(), tree));
    }

    private Element elementOf(Tree tree) {
        return trees.getElement(new TreePath(getCurrentPath(), tree));
    }

    private static boolean isFraction(TypeMirror type) {
        return type != null && (type.getKind() == TypeKind.DOUBLE || type.getKind() == TypeKind.FLOAT);
    }

    private static boolean isOne(TypeMirror type, String name) {
        return type instanceof DeclaredType && type.toString().equals("java.lang." + name);
    }

    private boolean isOwn(TypeElement type) {
        TreePath path = type == null ? null : trees.getPath(type);
        return path != null && path.getCompilationUnit() == unit;
    }

    private static boolean isNumeric(TypeMirror type) {
        return type.getKind().isPrimitive() && type.getKind() != TypeKind.BOOLEAN;
    }

    /** The innermost method, or null in a field's initialiser or a block of a class. */
    private MethodTree method() {
        for (TreePath path = getCurrentPath(); path != null; path = path.getParentPath()) {
            if (path.getLeaf() instanceof MethodTree) {
                return (MethodTree) path.getLeaf();
            }
            if (path.getLeaf() instanceof ClassTree) {
                return null;
            }
        }
        return null;
    }

    private boolean isInConstructor() {
        return method() != null && method().getReturnType() == null;
    }

    private Element caller() {
        for (TreePath path = getCurrentPath(); path != null; path = path.getParentPath()) {
            if (path.getLeaf() instanceof MethodTree) {
                return trees.getElement(path);
            }
        }
        return null;
    }

    // ---- rules 1, 2, 5 and 11: classes, methods and fields

    @Override
    public Void visitCompilationUnit(CompilationUnitTree node, Void none) {
        need(node.getPackage() == null, 1, "a package line");
        need(node.getTypeDecls().size() == 1, 1, "more than one class in the file");
        for (ImportTree line : node.getImports()) {
            String name = line.getQualifiedIdentifier().toString();
            need(IMPORTED.contains(name) && !line.isStatic(), 4, "an import of " + name);
        }
        return super.visitCompilationUnit(node, none);
    }

    @Override
    public Void visitClass(ClassTree node, Void none) {
        classes++;
        Tree around = getCurrentPath().getParentPath().getLeaf();
        TypeElement type = (TypeElement) trees.getElement(getCurrentPath());
        Set<Modifier> said = node.getModifiers().getFlags();
        if (around instanceof CompilationUnitTree) {
            need(said.contains(Modifier.PUBLIC) && said.contains(Modifier.FINAL), 1, "a class that is not public final");
        } else if (around instanceof ClassTree) {
            need(type.getModifiers().contains(Modifier.STATIC), 1, node.getSimpleName() + " is not static");
            need(!said.contains(Modifier.PUBLIC) && !said.contains(Modifier.PROTECTED), 1,
                    node.getSimpleName() + " is seen from outside");
        } else if (!(around instanceof NewClassTree)) {
            rule(2, "a local class " + node.getSimpleName());
        }
        for (TypeMirror over = type.getSuperclass(); over instanceof DeclaredType;
                over = ((TypeElement) ((DeclaredType) over).asElement()).getSuperclass()) {
            need(!over.toString().equals("java.lang.Throwable"), 6, "an exception class " + node.getSimpleName());
        }
        countFields(node);
        return super.visitClass(node, none);
    }

    private void countFields(ClassTree node) {
        int fields = 0;
        for (Tree member : node.getMembers()) {
            if (member instanceof BlockTree) {
                need(!((BlockTree) member).isStatic(), 5, "a static initialiser block");
            }
            if (member instanceof VariableTree
                    && !((VariableTree) member).getModifiers().getFlags().contains(Modifier.STATIC)) {
                fields++;
            }
        }
        need(fields <= MOST_FIELDS, 11, fields + " fields in " + node.getSimpleName());
    }

    @Override
    public Void visitMethod(MethodTree node, Void none) {
        ExecutableElement method = (ExecutableElement) trees.getElement(getCurrentPath());
        String name = node.getName().toString();
        boolean isOfFace = trees.getTree((TypeElement) method.getEnclosingElement()) == unit.getTypeDecls().get(0);
        Set<Modifier> is = method.getModifiers();
        if (isOfFace) {
            need(is.contains(Modifier.PRIVATE) || is.contains(Modifier.PUBLIC) && (face.contains(name) || node.getReturnType() == null),
                    1, name + " is seen from outside");
            need(node.getReturnType() != null || is.contains(Modifier.PUBLIC) && node.getParameters().isEmpty(), 1,
                    "a constructor that is not the document's");
        }
        need(!is.contains(Modifier.PRIVATE) || !face.contains(name), 1, name + " is private and bears a public name");
        need(!is.contains(Modifier.SYNCHRONIZED), 6, name + " is synchronized");
        need(!is.contains(Modifier.NATIVE), 4, name + " is native");
        need(!Set.of("equals", "hashCode", "toString").contains(name), 6, name + " is written anew");
        need(node.getParameters().size() <= MOST_PARAMETERS, 11, name + " takes " + node.getParameters().size());
        long from = trees.getSourcePositions().getStartPosition(unit, node);
        long to = trees.getSourcePositions().getEndPosition(unit, node);
        if (from >= 0 && to >= 0) {
            long lines = unit.getLineMap().getLineNumber(to) - unit.getLineMap().getLineNumber(from) + 1;
            need(lines <= MOST_LINES, 11, name + " has " + lines + " lines");
        }
        if (node.getReturnType() != null) {
            checkType(method.getReturnType(), name);
        }
        calls.add(method);
        return super.visitMethod(node, none);
    }

    @Override
    public Void visitVariable(VariableTree node, Void none) {
        VariableElement variable = (VariableElement) trees.getElement(getCurrentPath());
        TypeMirror type = trees.getTypeMirror(getCurrentPath());
        String name = node.getName().toString();
        boolean isCaught = getCurrentPath().getParentPath().getLeaf() instanceof CatchTree;
        if (!isCaught && variable.getKind() != ElementKind.ENUM_CONSTANT) {
            checkType(type, name);
        }
        if (variable.getKind() == ElementKind.FIELD) {
            boolean isOfFace = trees.getTree((TypeElement) variable.getEnclosingElement()) == unit.getTypeDecls().get(0);
            need(!isOfFace || variable.getModifiers().contains(Modifier.PRIVATE), 1, name + " is seen from outside");
            if (variable.getModifiers().contains(Modifier.STATIC)) {
                checkStatic(node, variable, type);
            } else if (variable.getEnclosingElement().getKind() == ElementKind.ENUM) {
                need(Set.of(TypeKind.INT, TypeKind.LONG, TypeKind.BOOLEAN).contains(type.getKind()) || isOne(type, "String"),
                        2, name + " is an enum's field, of " + type);
            }
        }
        return super.visitVariable(node, none);
    }

    private void checkStatic(VariableTree node, VariableElement variable, TypeMirror type) {
        String name = node.getName().toString();
        need(variable.getModifiers().contains(Modifier.FINAL), 5, name + " is static and not final");
        if (type instanceof ArrayType) {
            TypeMirror part = ((ArrayType) type).getComponentType();
            boolean isRow = Set.of(TypeKind.INT, TypeKind.LONG, TypeKind.CHAR, TypeKind.BYTE).contains(part.getKind());
            boolean isEnumRow = part instanceof DeclaredType && ((DeclaredType) part).asElement().getKind() == ElementKind.ENUM;
            boolean isWritten = node.getInitializer() instanceof NewArrayTree
                    && ((NewArrayTree) node.getInitializer()).getInitializers() != null;
            need(isRow && isWritten || isEnumRow, 5, name + " is a static array that is not written out");
        } else {
            need(Set.of(TypeKind.INT, TypeKind.LONG, TypeKind.BOOLEAN, TypeKind.CHAR).contains(type.getKind())
                    || isOne(type, "String"), 5, name + " is static, of " + type);
        }
    }

    // ---- rule 3: types

    private void checkType(TypeMirror type, String name) {
        need(isAllowed(type), 3, name + " is of " + type);
    }

    private boolean isAllowed(TypeMirror type) {
        if (type.getKind().isPrimitive() || type.getKind() == TypeKind.VOID || type.getKind() == TypeKind.TYPEVAR) {
            return true;
        }
        if (type instanceof ArrayType) {
            TypeMirror part = ((ArrayType) type).getComponentType();
            if (part instanceof ArrayType) {
                return isNumeric(((ArrayType) part).getComponentType());
            }
            return part.getKind().isPrimitive()
                    || part instanceof DeclaredType && isOwn((TypeElement) ((DeclaredType) part).asElement());
        }
        if (!(type instanceof DeclaredType)) {
            return false;
        }
        for (TypeMirror inside : ((DeclaredType) type).getTypeArguments()) {
            boolean isOwnOne = inside instanceof DeclaredType && isOwn((TypeElement) ((DeclaredType) inside).asElement());
            if (!isOwnOne && !isOne(inside, "Integer") && inside.getKind() != TypeKind.TYPEVAR) {
                return false;
            }
        }
        TypeElement element = (TypeElement) ((DeclaredType) type).asElement();
        String name = element.getQualifiedName().toString();
        return isOwn(element) || Set.of("java.lang.String", "java.lang.StringBuilder", "java.lang.Integer",
                "java.util.ArrayList", "java.util.List", "java.util.Iterator").contains(name);
    }

    // ---- rules 4, 12 and 13: what is called and made

    @Override
    public Void visitMethodInvocation(MethodInvocationTree node, Void none) {
        Element called = elementOf(node.getMethodSelect());
        if (called instanceof ExecutableElement) {
            ExecutableElement method = (ExecutableElement) called;
            TypeElement owner = (TypeElement) method.getEnclosingElement();
            if (isOwn(owner)) {
                calls.add(caller(), method);
                need(!isInConstructor() || isFixed(method), 12, method + " is called in a constructor");
            } else {
                checkLibrary(owner, method);
            }
        }
        if (isInConstructor()) {
            checkNotHandedOut(node.getArguments());
        }
        return super.visitMethodInvocation(node, none);
    }

    private static boolean isFixed(ExecutableElement method) {
        Set<Modifier> is = method.getModifiers();
        boolean isFinal = method.getEnclosingElement().getModifiers().contains(Modifier.FINAL);
        return isFinal || is.contains(Modifier.PRIVATE) || is.contains(Modifier.STATIC) || is.contains(Modifier.FINAL)
                || method.getKind() == ElementKind.CONSTRUCTOR || method.getEnclosingElement().getKind() == ElementKind.ENUM;
    }

    private void checkLibrary(TypeElement owner, ExecutableElement method) {
        String name = method.getSimpleName().toString();
        if (name.equals("<init>")) {
            return; // what the compiler puts ahead of a constructor's own lines
        }
        boolean isOfEnum = owner.getQualifiedName().contentEquals("java.lang.Enum") || name.equals("values");
        boolean isClone = name.equals("clone");
        Set<String> allowed = LIBRARY.getOrDefault(owner.getSimpleName().toString(), Set.of());
        need(isOfEnum || isClone || allowed.contains(name), 4, "a call of " + owner + "." + method);
        if (FRACTIONS.contains(owner.getQualifiedName().toString())) {
            need(!isFraction(method.getReturnType()), 3, owner + "." + method + " is asked of fractions");
        }
    }

    private void checkNotHandedOut(List<? extends ExpressionTree> given) {
        for (ExpressionTree value : given) {
            need(!value.toString().equals("this"), 12, "a constructor hands out its object");
        }
    }

    @Override
    public Void visitNewClass(NewClassTree node, Void none) {
        TypeElement type = (TypeElement) ((DeclaredType) typeOf(node.getIdentifier())).asElement();
        String name = type.getQualifiedName().toString();
        Element made = trees.getElement(getCurrentPath());
        boolean isThrown = getCurrentPath().getParentPath().getLeaf() instanceof ThrowTree;
        if (isOwn(type) && made instanceof ExecutableElement) {
            calls.add(caller(), (ExecutableElement) made);
        } else if (!isThrown && node.getClassBody() == null) {
            boolean isText = name.equals("java.lang.String") && node.getArguments().size() == 1;
            need(isText || name.equals("java.lang.StringBuilder") || name.equals("java.util.ArrayList"), 4, "a new " + name);
        }
        if (isInConstructor()) {
            checkNotHandedOut(node.getArguments());
        }
        return super.visitNewClass(node, none);
    }

    @Override
    public Void visitNewArray(NewArrayTree node, Void none) {
        TypeMirror type = trees.getTypeMirror(getCurrentPath());
        need(type == null || isAllowed(type), 3, "a new array of " + type);
        return super.visitNewArray(node, none);
    }

    @Override
    public Void visitMemberSelect(MemberSelectTree node, Void none) {
        Element selected = trees.getElement(getCurrentPath());
        if (selected instanceof VariableElement && selected.getEnclosingElement() instanceof TypeElement) {
            TypeElement owner = (TypeElement) selected.getEnclosingElement();
            need(isOwn(owner) || !owner.getQualifiedName().contentEquals("java.lang.System"), 13, "a use of " + node);
        }
        need(!node.getIdentifier().contentEquals("class"), 4, "a use of " + node);
        return super.visitMemberSelect(node, none);
    }

    @Override
    public Void visitLiteral(LiteralTree node, Void none) {
        if (node.getValue() instanceof String) {
            String text = (String) node.getValue();
            for (int i = 0; i < text.length(); i++) {
                need(text.charAt(i) >= 1 && text.charAt(i) <= 127, 4, "the sign " + (int) text.charAt(i) + " in a text");
            }
        }
        return super.visitLiteral(node, none);
    }

    // ---- rules 2 and 6: what is not there at all, and exceptions

    @Override
    public Void visitLambdaExpression(LambdaExpressionTree node, Void none) {
        rule(2, "a lambda");
        return super.visitLambdaExpression(node, none);
    }

    @Override
    public Void visitMemberReference(MemberReferenceTree node, Void none) {
        rule(2, "a method reference");
        return super.visitMemberReference(node, none);
    }

    @Override
    public Void visitSynchronized(SynchronizedTree node, Void none) {
        rule(6, "a synchronized block");
        return super.visitSynchronized(node, none);
    }

    @Override
    public Void visitAssert(AssertTree node, Void none) {
        rule(6, "an assert");
        return super.visitAssert(node, none);
    }

    @Override
    public Void visitThrow(ThrowTree node, Void none) {
        boolean isNew = node.getExpression() instanceof NewClassTree;
        need(isNew, 6, "a throw without new");
        if (isNew) {
            NewClassTree made = (NewClassTree) node.getExpression();
            need(THROWN.contains(made.getIdentifier().toString()), 6, "a throw of " + made.getIdentifier());
            for (ExpressionTree text : made.getArguments()) {
                need(text instanceof LiteralTree && made.getArguments().size() == 1, 6, "an exception with " + text);
            }
        }
        need(!isInConstructor(), 6, "a throw in a constructor");
        return super.visitThrow(node, none);
    }

    @Override
    public Void visitTry(TryTree node, Void none) {
        need(node.getFinallyBlock() == null, 6, "a finally");
        need(node.getResources().isEmpty(), 6, "a try with resources");
        boolean[] isThrowing = {false};
        new com.sun.source.util.TreeScanner<Void, Void>() {
            @Override
            public Void visitThrow(ThrowTree found, Void nothing) {
                isThrowing[0] = true;
                return null;
            }
        }.scan(method(), null);
        need(!isThrowing[0], 6, "a try in a method that throws");
        for (CatchTree caught : node.getCatches()) {
            for (String type : caught.getParameter().getType().toString().split("\\|")) {
                need(THROWN.contains(type.trim()), 6, "a catch of " + type);
            }
            String name = caught.getParameter().getName().toString();
            boolean isUsed = caught.getBlock().toString().matches("(?s).*\\b" + name + "\\b.*");
            need(!isUsed, 6, "a use of the exception that was caught");
        }
        return super.visitTry(node, none);
    }

    // ---- rules 3, 5, 6, 7 and 10: what is reckoned

    @Override
    public Void visitBinary(BinaryTree node, Void none) {
        TypeMirror left = typeOf(node.getLeftOperand());
        TypeMirror right = typeOf(node.getRightOperand());
        boolean isText = isOne(left, "String") || isOne(right, "String");
        switch (node.getKind()) {
            case PLUS:
                need(!isText, 10, "a text joined by +");
                break;
            case REMAINDER:
                need(!isFraction(left) && !isFraction(right), 3, "a remainder of fractions");
                checkDivisor(node.getRightOperand(), left, right);
                break;
            case DIVIDE:
                checkDivisor(node.getRightOperand(), left, right);
                break;
            case EQUAL_TO:
            case NOT_EQUAL_TO:
                need(!isOne(left, "String") || !isOne(right, "String"), 6, "two Strings compared by " + node);
                need(!isOne(left, "Integer") || !isOne(right, "Integer"), 6, "two Integers compared by " + node);
                break;
            default:
        }
        return super.visitBinary(node, none);
    }

    /** A divisor of whole numbers is a constant other than 0, so that no test of it is needed. */
    private void checkDivisor(ExpressionTree divisor, TypeMirror left, TypeMirror right) {
        if (isFraction(left) || isFraction(right)) {
            return;
        }
        ExpressionTree bare = divisor;
        while (bare instanceof ParenthesizedTree) {
            bare = ((ParenthesizedTree) bare).getExpression();
        }
        Object value = bare instanceof LiteralTree ? ((LiteralTree) bare).getValue() : null;
        Element element = elementOf(bare);
        if (value == null && element instanceof VariableElement) {
            value = ((VariableElement) element).getConstantValue();
        }
        need(value instanceof Number && ((Number) value).longValue() != 0, 7, "a divisor that may be 0: " + divisor);
    }

    @Override
    public Void visitCompoundAssignment(CompoundAssignmentTree node, Void none) {
        TypeMirror type = typeOf(node.getVariable());
        if (node.getKind() == Tree.Kind.DIVIDE_ASSIGNMENT || node.getKind() == Tree.Kind.REMAINDER_ASSIGNMENT) {
            checkDivisor(node.getExpression(), type, typeOf(node.getExpression()));
            need(node.getKind() == Tree.Kind.DIVIDE_ASSIGNMENT || !isFraction(type), 3, "a remainder of fractions");
        }
        need(!isOne(type, "String"), 10, "a text joined by +=");
        checkUnchanged(node.getVariable());
        return super.visitCompoundAssignment(node, none);
    }

    @Override
    public Void visitAssignment(AssignmentTree node, Void none) {
        checkUnchanged(node.getVariable());
        return super.visitAssignment(node, none);
    }

    @Override
    public Void visitUnary(UnaryTree node, Void none) {
        if (!Set.of(Tree.Kind.UNARY_MINUS, Tree.Kind.UNARY_PLUS, Tree.Kind.LOGICAL_COMPLEMENT,
                Tree.Kind.BITWISE_COMPLEMENT).contains(node.getKind())) {
            checkUnchanged(node.getExpression());
        }
        return super.visitUnary(node, none);
    }

    private void checkUnchanged(ExpressionTree changed) {
        if (changed instanceof ArrayAccessTree) {
            Element row = elementOf(((ArrayAccessTree) changed).getExpression());
            need(row == null || !row.getModifiers().contains(Modifier.STATIC), 5, changed + " is changed");
        }
    }

    // ---- rule 9: loops

    @Override
    public Void visitForLoop(ForLoopTree node, Void none) {
        need(node.getCondition() != null, 9, "a for without an end");
        checkEnd(node.getCondition());
        return super.visitForLoop(node, none);
    }

    @Override
    public Void visitWhileLoop(WhileLoopTree node, Void none) {
        checkEnd(node.getCondition());
        return super.visitWhileLoop(node, none);
    }

    @Override
    public Void visitDoWhileLoop(DoWhileLoopTree node, Void none) {
        checkEnd(node.getCondition());
        return super.visitDoWhileLoop(node, none);
    }

    /** A counter against a bound, or a chain against its end. */
    private void checkEnd(ExpressionTree condition) {
        boolean[] isBounded = {false};
        new com.sun.source.util.TreeScanner<Void, Void>() {
            @Override
            public Void visitBinary(BinaryTree node, Void nothing) {
                boolean isBound = Set.of(Tree.Kind.LESS_THAN, Tree.Kind.LESS_THAN_EQUAL, Tree.Kind.GREATER_THAN,
                        Tree.Kind.GREATER_THAN_EQUAL).contains(node.getKind());
                boolean isChain = node.getKind() == Tree.Kind.NOT_EQUAL_TO
                        && node.getRightOperand().getKind() == Tree.Kind.NULL_LITERAL;
                isBounded[0] |= isBound || isChain;
                return super.visitBinary(node, nothing);
            }
        }.scan(condition, null);
        need(isBounded[0], 9, "a loop whose end is not seen: " + condition);
    }

    /** Rules 8 and 11: which methods call one another, and how deep. */
    private static final class CallGraph {
        private static final int DEEPEST = 8;
        private final List<ExecutableElement> methods = new ArrayList<>();
        private final List<Set<Integer>> called = new ArrayList<>();

        int add(ExecutableElement method) {
            int at = methods.indexOf(method);
            if (at < 0) {
                at = methods.size();
                methods.add(method);
                called.add(new TreeSet<>());
            }
            return at;
        }

        void add(Element caller, ExecutableElement method) {
            int to = add(method);
            if (caller instanceof ExecutableElement) {
                called.get(add((ExecutableElement) caller)).add(to);
            }
        }

        void addFaults(List<String> faults) {
            boolean[][] reaches = reached();
            for (int i = 0; i < methods.size(); i++) {
                ExecutableElement method = methods.get(i);
                Set<Modifier> is = method.getModifiers();
                boolean isAlone = ringOf(i, reaches).size() == 1;
                boolean isOfInterface = method.getEnclosingElement().getKind() == ElementKind.INTERFACE;
                if (reaches[i][i] && !isOfInterface && (!is.contains(Modifier.PRIVATE) || isAlone && !is.contains(Modifier.STATIC))) {
                    faults.add("8: " + method + " calls itself, and is not private" + (isAlone ? " static" : ""));
                }
                int deep = depthFrom(i, reaches, new int[methods.size()]);
                if (is.contains(Modifier.PUBLIC) && deep > DEEPEST) {
                    faults.add("11: " + method + " goes " + deep + " deep");
                }
            }
        }

        private boolean[][] reached() {
            int size = methods.size();
            boolean[][] reaches = new boolean[size][size];
            for (int i = 0; i < size; i++) {
                for (int to : called.get(i)) {
                    reaches[i][to] = true;
                }
            }
            for (int by = 0; by < size; by++) {
                for (int i = 0; i < size; i++) {
                    for (int to = 0; reaches[i][by] && to < size; to++) {
                        reaches[i][to] |= reaches[by][to];
                    }
                }
            }
            return reaches;
        }

        /** The methods that call one another in a ring with this one, itself included. */
        private Set<Integer> ringOf(int method, boolean[][] reaches) {
            Set<Integer> ring = new TreeSet<>(Set.of(method));
            for (int i = 0; i < methods.size(); i++) {
                if (reaches[method][i] && reaches[i][method]) {
                    ring.add(i);
                }
            }
            return ring;
        }

        /**
         * The longest chain of calls, in which each method of a ring counts once. No method goes down more than two
         * games of 12 moves at once: so eight methods have 200 calls open at most, and never the 300 of rule 8.
         */
        private int depthFrom(int method, boolean[][] reaches, int[] known) {
            Set<Integer> ring = ringOf(method, reaches);
            int first = ring.iterator().next();
            if (known[first] == 0) {
                int below = 0;
                for (int part : ring) {
                    for (int to : called.get(part)) {
                        below = ring.contains(to) ? below : Math.max(below, depthFrom(to, reaches, known));
                    }
                }
                known[first] = ring.size() + below;
            }
            return known[first];
        }
    }
}
