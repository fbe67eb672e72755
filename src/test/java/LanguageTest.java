import com.sun.source.tree.ArrayAccessTree;
import com.sun.source.tree.AssertTree;
import com.sun.source.tree.BinaryTree;
import com.sun.source.tree.BlockTree;
import com.sun.source.tree.CatchTree;
import com.sun.source.tree.ClassTree;
import com.sun.source.tree.CompilationUnitTree;
import com.sun.source.tree.CompoundAssignmentTree;
import com.sun.source.tree.DoWhileLoopTree;
import com.sun.source.tree.EnhancedForLoopTree;
import com.sun.source.tree.ExpressionTree;
import com.sun.source.tree.ForLoopTree;
import com.sun.source.tree.ImportTree;
import com.sun.source.tree.InstanceOfTree;
import com.sun.source.tree.LambdaExpressionTree;
import com.sun.source.tree.LiteralTree;
import com.sun.source.tree.MemberReferenceTree;
import com.sun.source.tree.MemberSelectTree;
import com.sun.source.tree.MethodInvocationTree;
import com.sun.source.tree.MethodTree;
import com.sun.source.tree.NewArrayTree;
import com.sun.source.tree.NewClassTree;
import com.sun.source.tree.SynchronizedTree;
import com.sun.source.tree.ThrowTree;
import com.sun.source.tree.Tree;
import com.sun.source.tree.TryTree;
import com.sun.source.tree.TypeCastTree;
import com.sun.source.tree.UnaryTree;
import com.sun.source.tree.VariableTree;
import com.sun.source.tree.WhileLoopTree;
import com.sun.source.util.JavacTask;
import com.sun.source.util.SourcePositions;
import com.sun.source.util.TreePath;
import com.sun.source.util.TreePathScanner;
import com.sun.source.util.Trees;
import java.nio.file.Files;
import java.nio.file.Path;
import java.util.ArrayList;
import java.util.LinkedHashMap;
import java.util.LinkedHashSet;
import java.util.List;
import java.util.Map;
import java.util.Set;
import java.util.TreeSet;
import java.util.regex.Pattern;
import javax.lang.model.element.Element;
import javax.lang.model.element.ElementKind;
import javax.lang.model.element.ExecutableElement;
import javax.lang.model.element.Modifier;
import javax.lang.model.element.TypeElement;
import javax.lang.model.type.ArrayType;
import javax.lang.model.type.DeclaredType;
import javax.lang.model.type.TypeKind;
import javax.lang.model.type.TypeMirror;
import javax.tools.JavaCompiler;
import javax.tools.StandardJavaFileManager;
import javax.tools.ToolProvider;

/**
 * Holds the source against those rules of LANGUAGE.md that its tree shows, by their numbers. Where
 * the class does without what a rule allows (recursion, while, try), it asks for that, too: what
 * is not there needs no looking after.
 */
public final class LanguageTest extends TreePathScanner<Void, Void> {
    private static final Check CHECK = new Check();

    private static final Set<String> IMPORTS = Set.of("java.util.ArrayList", "java.util.NoSuchElementException");
    private static final Set<String> THROWN = Set.of("IllegalStateException", "IllegalArgumentException",
        "IndexOutOfBoundsException", "ArithmeticException", "UnsupportedOperationException", "NoSuchElementException",
        "RuntimeException");
    private static final Set<String> CALLED = Set.of(
        "String.length()", "String.charAt(int)", "String.isEmpty()", "String.equals(java.lang.Object)",
        "StringBuilder.append(char)", "StringBuilder.append(java.lang.String)", "StringBuilder.append(int)",
        "AbstractStringBuilder.charAt(int)", "AbstractStringBuilder.setLength(int)", "AbstractStringBuilder.length()",
        "ArrayList.add(E)", "ArrayList.get(int)", "ArrayList.size()",
        "Math.min(int,int)", "Math.max(int,int)");
    private static final Set<String> MADE = Set.of("java.lang.StringBuilder()", "java.util.ArrayList()");
    private static final Set<TypeKind> NUMBERS = Set.of(TypeKind.INT, TypeKind.LONG, TypeKind.SHORT, TypeKind.BYTE,
        TypeKind.CHAR, TypeKind.DOUBLE, TypeKind.FLOAT);
    private static final int MOST_PARAMETERS = 7;
    private static final int MOST_LINES = 60;
    private static final int MOST_CLASSES = 12;
    private static final int MOST_FIELDS = 20;
    private static final int MOST_DEPTH = 8;

    private final Trees trees;
    private final CompilationUnitTree unit;
    private final String text;
    private final Map<Element, Set<Element>> calls = new LinkedHashMap<>();
    private int classes = 0;

    private LanguageTest(Trees trees, CompilationUnitTree unit, String text) {
        this.trees = trees;
        this.unit = unit;
        this.text = text;
    }

    public static void main(String[] args) throws Exception {
        Path source = Path.of(args.length > 0 ? args[0] : "src/main/java/SpoolFarm.java");
        JavaCompiler compiler = ToolProvider.getSystemJavaCompiler();
        try (StandardJavaFileManager files = compiler.getStandardFileManager(null, null, null)) {
            JavacTask task = (JavacTask) compiler.getTask(null, files, null, List.of("--release", "17", "-proc:none"),
                null, files.getJavaFileObjects(source));
            CompilationUnitTree unit = task.parse().iterator().next();
            task.analyze();
            LanguageTest test = new LanguageTest(Trees.instance(task), unit, Files.readString(source));
            test.oneClass();
            test.scan(unit, null);
            test.callsOfCalls();
        }
        CHECK.end("LanguageTest");
    }

    private void rule(int number, boolean holds, String what, Tree where) {
        SourcePositions positions = trees.getSourcePositions();
        long line = unit.getLineMap().getLineNumber(Math.max(0, positions.getStartPosition(unit, where)));
        CHECK.same("rule " + number + ", line " + line + ", " + what, holds, true);
    }

    private Element element() {
        return trees.getElement(getCurrentPath());
    }

    private TypeMirror typeOf(Tree tree) {
        return trees.getTypeMirror(new TreePath(getCurrentPath(), tree));
    }

    private boolean isOwn(TypeMirror type) {
        return type.getKind() == TypeKind.DECLARED && isOwn(((DeclaredType) type).asElement());
    }

    private boolean isOwn(Element element) {
        TreePath path = element == null ? null : trees.getPath(element);
        return path != null && path.getCompilationUnit() == unit;
    }

    private boolean isInLoop() {
        for (TreePath path = getCurrentPath(); path != null; path = path.getParentPath()) {
            Tree.Kind kind = path.getLeaf().getKind();
            if (kind == Tree.Kind.FOR_LOOP || kind == Tree.Kind.ENHANCED_FOR_LOOP) {
                return true;
            }
        }
        return false;
    }

    // Rule 1, and what it says of the file
    private void oneClass() {
        CHECK.same("rule 1, package lines", unit.getPackage() == null, true);
        CHECK.same("rule 1, classes of the file", unit.getTypeDecls().size(), 1);
        for (ImportTree line : unit.getImports()) {
            rule(4, IMPORTS.contains(line.getQualifiedIdentifier().toString()) && !line.isStatic(), "" + line, line);
        }
    }

    // Rules 1, 2 and 11
    @Override
    public Void visitClass(ClassTree tree, Void unused) {
        Set<Modifier> modifiers = element().getModifiers();
        boolean isOuter = element().getEnclosingElement().getKind() == ElementKind.PACKAGE;
        boolean isInside = element().getEnclosingElement().getKind() == ElementKind.CLASS;
        rule(1, isOuter || isInside, "a class in a method", tree);
        rule(1, !isOuter || modifiers.equals(Set.of(Modifier.PUBLIC, Modifier.FINAL)), "the face's class", tree);
        rule(2, isOuter || modifiers.containsAll(Set.of(Modifier.PRIVATE, Modifier.STATIC)), "an inner class", tree);
        rule(6, tree.getExtendsClause() == null && tree.getImplementsClause().isEmpty(), "a class above it", tree);
        int fields = 0;
        for (Tree member : tree.getMembers()) {
            rule(5, !(member instanceof BlockTree), "an initialiser block", member);
            fields += member instanceof VariableTree field && !isConstant(field) ? 1 : 0;
        }
        rule(11, fields <= MOST_FIELDS, "too many fields", tree);
        rule(11, ++classes <= MOST_CLASSES, "too many classes", tree);
        return super.visitClass(tree, unused);
    }

    private static boolean isConstant(VariableTree field) {
        return field.getModifiers().getFlags().contains(Modifier.STATIC);
    }

    // Rules 1, 6, 11 and 12
    @Override
    public Void visitMethod(MethodTree tree, Void unused) {
        ExecutableElement method = (ExecutableElement) element();
        calls.putIfAbsent(method, new LinkedHashSet<>());
        boolean isPublic = method.getModifiers().contains(Modifier.PUBLIC);
        if (!isPublic) {
            rule(1, !namesOfTheFace().contains(method.getSimpleName().toString()), "a name of the face", tree);
        }
        if (tree.getReturnType() != null) {
            rule(3, isAllowed(typeOf(tree.getReturnType())), "the type of " + method, tree);
        }
        rule(6, !Set.of("equals", "hashCode", "toString").contains(method.getSimpleName().toString()),
            "a method of Object", tree);
        rule(11, tree.getParameters().size() <= MOST_PARAMETERS, "too many parameters", tree);
        rule(11, lines(tree) <= MOST_LINES, "too many lines", tree);
        return super.visitMethod(tree, unused);
    }

    private static Set<String> namesOfTheFace() {
        Set<String> names = new TreeSet<>();
        for (java.lang.reflect.Method method : SpoolFarm.class.getDeclaredMethods()) {
            if (java.lang.reflect.Modifier.isPublic(method.getModifiers())) {
                names.add(method.getName());
            }
        }
        return names;
    }

    private long lines(Tree tree) {
        SourcePositions positions = trees.getSourcePositions();
        return unit.getLineMap().getLineNumber(positions.getEndPosition(unit, tree))
            - unit.getLineMap().getLineNumber(positions.getStartPosition(unit, tree)) + 1;
    }

    // Rules 3 and 5
    @Override
    public Void visitVariable(VariableTree tree, Void unused) {
        Set<Modifier> modifiers = element().getModifiers();
        TypeMirror type = element().asType();
        boolean isField = element().getKind() == ElementKind.FIELD;
        rule(3, isAllowed(type), "the type of " + tree, tree);
        if (modifiers.contains(Modifier.STATIC)) {
            rule(5, modifiers.contains(Modifier.FINAL) && isOfAConstant(type), "a static field", tree);
        }
        if (isField && element().getEnclosingElement().getEnclosingElement().getKind() == ElementKind.PACKAGE) {
            rule(1, modifiers.contains(Modifier.PRIVATE), "a field that is seen", tree);
        }
        return super.visitVariable(tree, unused);
    }

    private static boolean isOfAConstant(TypeMirror type) {
        return Set.of("int", "long", "boolean", "char", "java.lang.String").contains(type.toString());
    }

    private boolean isAllowed(TypeMirror type) {
        switch (type.getKind()) {
            case ARRAY:
                return isAllowedElement(((ArrayType) type).getComponentType());
            case DECLARED:
                return isOwn(type) || Set.of("java.lang.String", "java.lang.StringBuilder").contains(type.toString())
                    || isAllowedList((DeclaredType) type);
            default:
                return type.getKind() == TypeKind.VOID || type.getKind().isPrimitive();
        }
    }

    private boolean isAllowedElement(TypeMirror element) {
        if (element.getKind() == TypeKind.ARRAY) {
            return NUMBERS.contains(((ArrayType) element).getComponentType().getKind());
        }
        return element.getKind().isPrimitive() || isOwn(element);
    }

    private boolean isAllowedList(DeclaredType type) {
        String name = ((TypeElement) type.asElement()).getQualifiedName().toString();
        return Set.of("java.util.ArrayList", "java.util.List").contains(name)
            && type.getTypeArguments().size() == 1 && isOwn(type.getTypeArguments().get(0));
    }

    // Rule 4: what the library is used for
    @Override
    public Void visitMethodInvocation(MethodInvocationTree tree, Void unused) {
        ExecutableElement called = (ExecutableElement) element();
        if (isOwn(called)) {
            Element caller = caller();
            if (caller != null) {
                calls.computeIfAbsent(caller, none -> new LinkedHashSet<>()).add(called);
            }
        } else if (called.getKind() != ElementKind.CONSTRUCTOR) {
            String name = called.getEnclosingElement().getSimpleName() + "." + called;
            rule(4, CALLED.contains(name), name, tree);
            if (name.endsWith(".get(int)") || name.endsWith(".charAt(int)")) {
                String list = ((MemberSelectTree) tree.getMethodSelect()).getExpression().toString();
                String size = list + (name.endsWith(".get(int)") ? ".size()" : ".length()");
                rule(7, isLookedAt(tree.getArguments().get(0), size), "an index of " + list + " not looked at", tree);
            }
        }
        return super.visitMethodInvocation(tree, unused);
    }

    // Rule 4: no constants of the library
    @Override
    public Void visitMemberSelect(MemberSelectTree tree, Void unused) {
        boolean isField = element() != null && element().getKind() == ElementKind.FIELD;
        boolean isLength = isField && typeOf(tree.getExpression()).getKind() == TypeKind.ARRAY;
        rule(4, !isField || isLength || isOwn(element()), "" + tree, tree);
        return super.visitMemberSelect(tree, unused);
    }

    // Rule 7: an index is compared with the length before it is used
    @Override
    public Void visitArrayAccess(ArrayAccessTree tree, Void unused) {
        rule(7, isLookedAt(tree.getIndex(), tree.getExpression() + ".length"), tree + " not looked at", tree);
        return super.visitArrayAccess(tree, unused);
    }

    private boolean isLookedAt(ExpressionTree index, String length) {
        String before = textBefore(index);
        return before.contains(index + " < " + length) || before.contains(index + " >= " + length);
    }

    /** The text of the method that stands before a place in it. */
    private String textBefore(Tree place) {
        for (TreePath path = getCurrentPath(); path != null; path = path.getParentPath()) {
            if (path.getLeaf() instanceof MethodTree method) {
                SourcePositions positions = trees.getSourcePositions();
                return text.substring((int) positions.getStartPosition(unit, method),
                    (int) positions.getStartPosition(unit, place));
            }
        }
        return "";
    }

    private Element caller() {
        for (TreePath path = getCurrentPath(); path != null; path = path.getParentPath()) {
            if (path.getLeaf() instanceof MethodTree) {
                return trees.getElement(path);
            }
        }
        return null;
    }

    // Rules 4 and 12
    @Override
    public Void visitNewClass(NewClassTree tree, Void unused) {
        ExecutableElement made = (ExecutableElement) element();
        boolean isThrown = getCurrentPath().getParentPath().getLeaf() instanceof ThrowTree;
        String name = ((TypeElement) made.getEnclosingElement()).getQualifiedName() + "()";
        rule(4, isThrown || isOwn(made) || MADE.contains(name) && tree.getArguments().isEmpty(), name, tree);
        rule(2, tree.getClassBody() == null, "an anonymous class", tree);
        rule(12, isThrown || !isInLoop(), "an object made in a loop", tree);
        return super.visitNewClass(tree, unused);
    }

    @Override
    public Void visitNewArray(NewArrayTree tree, Void unused) {
        rule(12, !isInLoop(), "an array made in a loop", tree);
        for (ExpressionTree length : tree.getDimensions()) {
            Element constant = trees.getElement(new TreePath(getCurrentPath(), length));
            rule(7, constant != null && constant.getModifiers().containsAll(Set.of(Modifier.STATIC, Modifier.FINAL)),
                "an array's length that is no constant", tree);
        }
        return super.visitNewArray(tree, unused);
    }

    // Rule 6
    @Override
    public Void visitThrow(ThrowTree tree, Void unused) {
        boolean isMade = tree.getExpression() instanceof NewClassTree;
        rule(6, isMade, "a throw of what is not made there", tree);
        if (tree.getExpression() instanceof NewClassTree made) {
            rule(6, THROWN.contains(made.getIdentifier().toString()), made.toString(), tree);
            rule(6, made.getArguments().size() == 1 && made.getArguments().get(0).getKind() == Tree.Kind.STRING_LITERAL,
                "an exception without a written text", tree);
        }
        Element caller = caller();
        rule(6, caller != null && caller.getKind() == ElementKind.METHOD, "a throw in a constructor", tree);
        return super.visitThrow(tree, unused);
    }

    @Override
    public Void visitTry(TryTree tree, Void unused) {
        rule(6, false, "a try", tree);
        return super.visitTry(tree, unused);
    }

    @Override
    public Void visitCatch(CatchTree tree, Void unused) {
        rule(6, false, "a catch", tree);
        return super.visitCatch(tree, unused);
    }

    @Override
    public Void visitSynchronized(SynchronizedTree tree, Void unused) {
        rule(6, false, "synchronized", tree);
        return super.visitSynchronized(tree, unused);
    }

    @Override
    public Void visitAssert(AssertTree tree, Void unused) {
        rule(6, false, "an assert", tree);
        return super.visitAssert(tree, unused);
    }

    @Override
    public Void visitInstanceOf(InstanceOfTree tree, Void unused) {
        rule(6, false, "an instanceof", tree);
        return super.visitInstanceOf(tree, unused);
    }

    // Rule 6 and rule 7: casts among numbers alone
    @Override
    public Void visitTypeCast(TypeCastTree tree, Void unused) {
        rule(7, typeOf(tree.getType()).getKind().isPrimitive() && typeOf(tree.getExpression()).getKind().isPrimitive(),
            "a cast that may fail", tree);
        return super.visitTypeCast(tree, unused);
    }

    // Rules 3, 6, 7 and 10
    @Override
    public Void visitBinary(BinaryTree tree, Void unused) {
        TypeMirror left = typeOf(tree.getLeftOperand());
        TypeMirror right = typeOf(tree.getRightOperand());
        rule(10, !isText(left) && !isText(right), "texts joined or compared by an operator", tree);
        if (tree.getKind() == Tree.Kind.DIVIDE || tree.getKind() == Tree.Kind.REMAINDER) {
            rule(7, isBroken(left) && isBroken(right), "a division of whole numbers", tree);
            rule(7, isNoZero(tree.getRightOperand()), "a divisor not looked at", tree);
        }
        if (isBroken(left) || isBroken(right)) {
            rule(3, tree.getKind() != Tree.Kind.REMAINDER, "a remainder of broken numbers", tree);
        }
        return super.visitBinary(tree, unused);
    }

    private boolean isNoZero(ExpressionTree divisor) {
        return divisor instanceof TypeCastTree cast
            && textBefore(divisor).contains("if (" + cast.getExpression() + " == 0) {");
    }

    @Override
    public Void visitCompoundAssignment(CompoundAssignmentTree tree, Void unused) {
        rule(10, !isText(typeOf(tree.getVariable())), "texts joined by an operator", tree);
        rule(7, tree.getKind() != Tree.Kind.DIVIDE_ASSIGNMENT && tree.getKind() != Tree.Kind.REMAINDER_ASSIGNMENT,
            "a division", tree);
        return super.visitCompoundAssignment(tree, unused);
    }

    private static boolean isText(TypeMirror type) {
        return type.toString().equals("java.lang.String");
    }

    private static boolean isBroken(TypeMirror type) {
        return type.getKind() == TypeKind.DOUBLE || type.getKind() == TypeKind.FLOAT;
    }

    // Rule 4: the signs of a written text
    @Override
    public Void visitLiteral(LiteralTree tree, Void unused) {
        boolean isWritten = tree.getValue() instanceof String || tree.getValue() instanceof Character;
        for (char sign : (isWritten ? "" + tree.getValue() : "").toCharArray()) {
            rule(4, sign >= 1 && sign <= 127, "a sign above 127", tree);
        }
        return super.visitLiteral(tree, unused);
    }

    // Rule 9: every loop counts up to a bound, or goes over an array
    @Override
    public Void visitForLoop(ForLoopTree tree, Void unused) {
        boolean isCounted = tree.getInitializer().size() == 1 && tree.getUpdate().size() == 1
            && tree.getUpdate().get(0).getExpression() instanceof UnaryTree step
            && step.getKind() == Tree.Kind.POSTFIX_INCREMENT;
        rule(9, isCounted, "a loop without a counter", tree);
        if (isCounted) {
            String counter = name(tree.getInitializer().get(0));
            rule(9, isBelow(tree.getCondition(), counter), "a loop without a bound", tree);
            rule(9, !changes(tree.getStatement(), counter), "a counter that is changed", tree);
        }
        return super.visitForLoop(tree, unused);
    }

    private static String name(Tree counter) {
        return counter instanceof VariableTree variable ? variable.getName().toString() : "";
    }

    private static boolean isBelow(ExpressionTree condition, String counter) {
        if (condition instanceof BinaryTree both && both.getKind() == Tree.Kind.CONDITIONAL_AND) {
            return isBelow(both.getLeftOperand(), counter);
        }
        return condition instanceof BinaryTree bound && bound.getKind() == Tree.Kind.LESS_THAN
            && bound.getLeftOperand().toString().equals(counter);
    }

    private static boolean changes(Tree body, String counter) {
        String changed = "\\b" + counter + "\\s*(\\+\\+|--|[-+*/]?=[^=])|(\\+\\+|--)\\s*" + counter + "\\b";
        return Pattern.compile(changed).matcher(body.toString()).find();
    }

    @Override
    public Void visitEnhancedForLoop(EnhancedForLoopTree tree, Void unused) {
        rule(12, typeOf(tree.getExpression()).getKind() == TypeKind.ARRAY, "a loop over a list, not by its index", tree);
        return super.visitEnhancedForLoop(tree, unused);
    }

    @Override
    public Void visitWhileLoop(WhileLoopTree tree, Void unused) {
        rule(9, false, "a while", tree);
        return super.visitWhileLoop(tree, unused);
    }

    @Override
    public Void visitDoWhileLoop(DoWhileLoopTree tree, Void unused) {
        rule(9, false, "a do", tree);
        return super.visitDoWhileLoop(tree, unused);
    }

    @Override
    public Void visitLambdaExpression(LambdaExpressionTree tree, Void unused) {
        rule(2, false, "a lambda", tree);
        return super.visitLambdaExpression(tree, unused);
    }

    @Override
    public Void visitMemberReference(MemberReferenceTree tree, Void unused) {
        rule(2, false, "a method reference", tree);
        return super.visitMemberReference(tree, unused);
    }

    // Rules 8 and 11: no recursion, and calls that go at most eight deep
    private void callsOfCalls() {
        CHECK.same("methods that were looked at", calls.size() > 60, true);
        for (Element method : calls.keySet()) {
            depth(method, new ArrayList<>());
        }
    }

    private void depth(Element method, List<Element> open) {
        boolean isOpen = open.contains(method);
        CHECK.same("rule 8, recursion of " + method, isOpen, false);
        CHECK.same("rule 11, the depth of " + method + " in " + open, open.size() < MOST_DEPTH, true);
        if (!isOpen) {
            open.add(method);
            for (Element called : calls.getOrDefault(method, Set.of())) {
                depth(called, open);
            }
            open.remove(open.size() - 1);
        }
    }
}
