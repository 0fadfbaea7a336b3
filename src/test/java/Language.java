import com.sun.source.tree.AssertTree;
import com.sun.source.tree.BinaryTree;
import com.sun.source.tree.BlockTree;
import com.sun.source.tree.ClassTree;
import com.sun.source.tree.CompilationUnitTree;
import com.sun.source.tree.CompoundAssignmentTree;
import com.sun.source.tree.DoWhileLoopTree;
import com.sun.source.tree.EnhancedForLoopTree;
import com.sun.source.tree.ExpressionTree;
import com.sun.source.tree.ForLoopTree;
import com.sun.source.tree.ImportTree;
import com.sun.source.tree.LambdaExpressionTree;
import com.sun.source.tree.LiteralTree;
import com.sun.source.tree.MemberReferenceTree;
import com.sun.source.tree.MethodInvocationTree;
import com.sun.source.tree.MethodTree;
import com.sun.source.tree.NewArrayTree;
import com.sun.source.tree.NewClassTree;
import com.sun.source.tree.SynchronizedTree;
import com.sun.source.tree.ThrowTree;
import com.sun.source.tree.Tree;
import com.sun.source.tree.TryTree;
import com.sun.source.tree.VariableTree;
import com.sun.source.tree.WhileLoopTree;
import com.sun.source.util.JavacTask;
import com.sun.source.util.TreePath;
import com.sun.source.util.TreePathScanner;
import com.sun.source.util.Trees;
import java.io.IOException;
import java.net.URI;
import java.util.ArrayList;
import java.util.HashSet;
import java.util.LinkedHashMap;
import java.util.LinkedHashSet;
import java.util.List;
import java.util.Map;
import java.util.Set;
import javax.lang.model.element.Element;
import javax.lang.model.element.ElementKind;
import javax.lang.model.element.ExecutableElement;
import javax.lang.model.element.Modifier;
import javax.lang.model.element.VariableElement;
import javax.lang.model.type.ArrayType;
import javax.lang.model.type.DeclaredType;
import javax.lang.model.type.TypeKind;
import javax.lang.model.type.TypeMirror;
import javax.tools.JavaCompiler;
import javax.tools.SimpleJavaFileObject;
import javax.tools.ToolProvider;

/**
 * Looks a program up for what breaks the rules of LANGUAGE.md, as far as its syntax tree can tell.
 * What the program has no need of, such as lists and doubles, is taken for a breach, too.
 */
final class Language extends TreePathScanner<Void, Void> {
    private static final Set<String> EXCEPTIONS = Set.of("IllegalStateException",
            "IllegalArgumentException", "IndexOutOfBoundsException", "ArithmeticException",
            "UnsupportedOperationException", "NoSuchElementException", "RuntimeException");
    private static final Set<String> CALLS = Set.of("java.lang.Math.max", "java.lang.Math.min",
            "java.lang.Math.abs", "java.lang.Integer.compare", "java.lang.Long.compare",
            "java.lang.System.arraycopy", "java.util.Arrays.fill");
    private static final Set<TypeKind> CONSTANTS =
            Set.of(TypeKind.INT, TypeKind.LONG, TypeKind.BOOLEAN, TypeKind.CHAR);

    private final Set<String> breaches = new LinkedHashSet<>();
    private final Map<Element, Set<Element>> calls = new LinkedHashMap<>();
    private final Map<Element, Set<String>> thrown = new LinkedHashMap<>();
    private final Set<String> openNames = new HashSet<>();
    private final List<ExecutableElement> methods = new ArrayList<>();
    private final Trees trees;
    private final CompilationUnitTree unit;
    private int classes;

    private Language(Trees trees, CompilationUnitTree unit) {
        this.trees = trees;
        this.unit = unit;
    }

    /** Each breach begins with the rule's number. */
    static List<String> breaches(String source) throws IOException {
        JavaCompiler compiler = ToolProvider.getSystemJavaCompiler();
        JavacTask task = (JavacTask) compiler.getTask(null, null, null,
                List.of("-proc:none"), null, List.of(new Source(source)));
        List<CompilationUnitTree> units = new ArrayList<>();
        task.parse().forEach(units::add);
        task.analyze();
        Language language = new Language(Trees.instance(task), units.get(0));
        language.scan(units.get(0), null);
        language.lookAtMethods();
        return new ArrayList<>(language.breaches);
    }

    /** A program that stands in memory. */
    private static final class Source extends SimpleJavaFileObject {
        private final String text;

        Source(String text) {
            super(URI.create("string:///EvenClock.java"), Kind.SOURCE);
            this.text = text;
        }

        @Override
        public CharSequence getCharContent(boolean ignoreEncodingErrors) {
            return text;
        }
    }

    private void breach(int rule, String what) {
        long line = unit.getLineMap().getLineNumber(
                trees.getSourcePositions().getStartPosition(unit, getCurrentPath().getLeaf()));
        breaches.add("rule " + rule + ", line " + line + ": " + what);
    }

    private void breachIf(boolean broken, int rule, String what) {
        if (broken) {
            breach(rule, what);
        }
    }

    private Element here() {
        return trees.getElement(getCurrentPath());
    }

    private ExecutableElement method() {
        for (TreePath at = getCurrentPath(); at != null; at = at.getParentPath()) {
            if (at.getLeaf() instanceof MethodTree) {
                return (ExecutableElement) trees.getElement(at);
            }
        }
        return null;
    }

    private TypeMirror typeOf(Tree tree) {
        return trees.getTypeMirror(new TreePath(getCurrentPath(), tree));
    }

    private boolean isOwn(Element element) {
        TreePath at = trees.getPath(element);
        return at != null && at.getCompilationUnit() == unit;
    }

    @Override
    public Void visitCompilationUnit(CompilationUnitTree tree, Void none) {
        breachIf(tree.getPackage() != null, 1, "a package");
        breachIf(tree.getTypeDecls().size() != 1, 1, "not one class alone");
        return super.visitCompilationUnit(tree, none);
    }

    @Override
    public Void visitImport(ImportTree tree, Void none) {
        String name = tree.getQualifiedIdentifier().toString();
        breachIf(!name.equals("java.util.NoSuchElementException"), 4, "import of " + name);
        return super.visitImport(tree, none);
    }

    @Override
    public Void visitClass(ClassTree tree, Void none) {
        classes++;
        breachIf(classes > 12, 11, "more than twelve classes");
        Element element = here();
        Set<Modifier> modifiers = element.getModifiers();
        if (element.getEnclosingElement().getKind() == ElementKind.PACKAGE) {
            breachIf(!modifiers.contains(Modifier.PUBLIC) || !modifiers.contains(Modifier.FINAL), 1,
                    "the face is not public and final");
        } else {
            breachIf(modifiers.contains(Modifier.PUBLIC) || modifiers.contains(Modifier.PROTECTED),
                    1, "a class inside that can be seen");
            breachIf(!modifiers.contains(Modifier.STATIC), 2, "a class inside that is not static");
        }
        long fields = element.getEnclosedElements().stream().filter(member ->
                member.getKind() == ElementKind.FIELD
                        && !member.getModifiers().contains(Modifier.STATIC)).count();
        breachIf(fields > 20, 11, "more than twenty fields");
        return super.visitClass(tree, none);
    }

    @Override
    public Void visitMethod(MethodTree tree, Void none) {
        ExecutableElement method = (ExecutableElement) here();
        methods.add(method);
        calls.putIfAbsent(method, new LinkedHashSet<>());
        thrown.putIfAbsent(method, new LinkedHashSet<>());
        boolean open = method.getModifiers().contains(Modifier.PUBLIC);
        if (open) {
            openNames.add(method.getSimpleName().toString());
        }
        boolean ofFace = method.getEnclosingElement().getEnclosingElement().getKind()
                == ElementKind.PACKAGE;
        breachIf(ofFace && !open && !method.getModifiers().contains(Modifier.PRIVATE), 1,
                "a member of the face that can be seen");
        breachIf(tree.getParameters().size() > 7, 11, "more than seven parameters");
        long first = unit.getLineMap().getLineNumber(
                trees.getSourcePositions().getStartPosition(unit, tree));
        long last = unit.getLineMap().getLineNumber(
                trees.getSourcePositions().getEndPosition(unit, tree));
        breachIf(last - first >= 60, 11, "more than sixty lines");
        breachIf(!isAllowed(method.getReturnType(), 2), 3, "answers " + method.getReturnType());
        return super.visitMethod(tree, none);
    }

    @Override
    public Void visitVariable(VariableTree tree, Void none) {
        VariableElement variable = (VariableElement) here();
        TypeMirror type = variable.asType();
        breachIf(!isAllowed(type, 2), 3, variable + " is " + type);
        if (variable.getKind() == ElementKind.FIELD) {
            Set<Modifier> modifiers = variable.getModifiers();
            boolean ofFace = variable.getEnclosingElement().getEnclosingElement().getKind()
                    == ElementKind.PACKAGE;
            breachIf(ofFace && !modifiers.contains(Modifier.PRIVATE), 1,
                    variable + " of the face can be seen");
            breachIf(modifiers.contains(Modifier.STATIC) && (!modifiers.contains(Modifier.FINAL)
                    || !CONSTANTS.contains(type.getKind()) || variable.getConstantValue() == null),
                    5, variable + " is static and no constant");
        }
        return super.visitVariable(tree, none);
    }

    /** Whole numbers, truths, own classes, and rows of these; rows of rows of numbers alone. */
    private boolean isAllowed(TypeMirror type, int rows) {
        if (type.getKind() == TypeKind.ARRAY) {
            TypeMirror element = ((ArrayType) type).getComponentType();
            boolean ofNumbers = element.getKind() != TypeKind.ARRAY
                    || ((ArrayType) element).getComponentType().getKind().isPrimitive();
            return rows > 0 && ofNumbers && isAllowed(element, rows - 1);
        }
        if (type.getKind() == TypeKind.DECLARED) {
            return isOwn(((DeclaredType) type).asElement());
        }
        return type.getKind() == TypeKind.VOID || type.getKind().isPrimitive()
                && type.getKind() != TypeKind.DOUBLE && type.getKind() != TypeKind.FLOAT;
    }

    @Override
    public Void visitBlock(BlockTree tree, Void none) {
        breachIf(tree.isStatic(), 5, "a static initialiser");
        for (Tree statement : tree.getStatements()) {
            breachIf(statement instanceof ClassTree, 2, "a local class");
        }
        return super.visitBlock(tree, none);
    }

    @Override
    public Void visitLambdaExpression(LambdaExpressionTree tree, Void none) {
        breach(2, "a lambda");
        return super.visitLambdaExpression(tree, none);
    }

    @Override
    public Void visitMemberReference(MemberReferenceTree tree, Void none) {
        breach(2, "a method reference");
        return super.visitMemberReference(tree, none);
    }

    @Override
    public Void visitMethodInvocation(MethodInvocationTree tree, Void none) {
        ExecutableElement called = (ExecutableElement) here();
        // What a class is made with by itself stands nowhere and is nobody's call.
        boolean written = called.getKind() != ElementKind.CONSTRUCTOR;
        if (written && isOwn(called) && method() != null) {
            calls.get(method()).add(called);
        } else if (written) {
            String name = called.getEnclosingElement() + "." + called.getSimpleName();
            breachIf(!CALLS.contains(name), 4, "a call of " + name);
            for (VariableElement parameter : called.getParameters()) {
                TypeKind kind = parameter.asType().getKind();
                breachIf(kind == TypeKind.DOUBLE || kind == TypeKind.FLOAT, 3,
                        name + " of doubles");
            }
        }
        return super.visitMethodInvocation(tree, none);
    }

    @Override
    public Void visitNewClass(NewClassTree tree, Void none) {
        boolean isThrown = getCurrentPath().getParentPath().getLeaf() instanceof ThrowTree;
        breachIf(tree.getClassBody() != null, 2, "an anonymous class");
        breachIf(!isThrown && isInCall(), 12, "a call makes " + tree);
        breachIf(!isThrown && !isOwn(here().getEnclosingElement()), 4, tree + " is not its own");
        return super.visitNewClass(tree, none);
    }

    @Override
    public Void visitNewArray(NewArrayTree tree, Void none) {
        breachIf(isInCall(), 12, "a call makes " + tree);
        return super.visitNewArray(tree, none);
    }

    /** Rows are made with the object, so that its calls do not fill the room. */
    private boolean isInCall() {
        return method() != null && method().getKind() != ElementKind.CONSTRUCTOR;
    }

    @Override
    public Void visitThrow(ThrowTree tree, Void none) {
        breachIf(!isInCall(), 6, "a constructor throws");
        if (tree.getExpression() instanceof NewClassTree made) {
            String name = made.getIdentifier().toString();
            breachIf(!EXCEPTIONS.contains(name), 6, "throws " + name);
            List<? extends ExpressionTree> texts = made.getArguments();
            breachIf(texts.size() > 1 || texts.size() == 1
                    && texts.get(0).getKind() != Tree.Kind.STRING_LITERAL, 6, "no written text");
            if (method() != null) {
                thrown.get(method()).add(name);
            }
        } else {
            breach(6, "throws what is not new");
        }
        return super.visitThrow(tree, none);
    }

    @Override
    public Void visitTry(TryTree tree, Void none) {
        breach(6, "a try");
        return super.visitTry(tree, none);
    }

    @Override
    public Void visitAssert(AssertTree tree, Void none) {
        breach(6, "an assert");
        return super.visitAssert(tree, none);
    }

    @Override
    public Void visitSynchronized(SynchronizedTree tree, Void none) {
        breach(6, "a synchronized");
        return super.visitSynchronized(tree, none);
    }

    @Override
    public Void visitBinary(BinaryTree tree, Void none) {
        divides(tree.getKind() == Tree.Kind.DIVIDE || tree.getKind() == Tree.Kind.REMAINDER,
                tree.getRightOperand());
        breachIf(typeOf(tree).getKind() == TypeKind.DECLARED, 10, "texts joined by +");
        return super.visitBinary(tree, none);
    }

    @Override
    public Void visitCompoundAssignment(CompoundAssignmentTree tree, Void none) {
        divides(tree.getKind() == Tree.Kind.DIVIDE_ASSIGNMENT
                || tree.getKind() == Tree.Kind.REMAINDER_ASSIGNMENT, tree.getExpression());
        return super.visitCompoundAssignment(tree, none);
    }

    private void divides(boolean division, ExpressionTree by) {
        boolean written = by instanceof LiteralTree && !by.toString().matches("0[lL]?");
        breachIf(division && !written, 7, "divides by " + by);
    }

    @Override
    public Void visitForLoop(ForLoopTree tree, Void none) {
        hasEnd(tree.getCondition());
        breachIf(tree.getUpdate().isEmpty(), 9, "a loop without a step");
        return super.visitForLoop(tree, none);
    }

    @Override
    public Void visitWhileLoop(WhileLoopTree tree, Void none) {
        hasEnd(tree.getCondition());
        return super.visitWhileLoop(tree, none);
    }

    @Override
    public Void visitDoWhileLoop(DoWhileLoopTree tree, Void none) {
        hasEnd(tree.getCondition());
        return super.visitDoWhileLoop(tree, none);
    }

    @Override
    public Void visitEnhancedForLoop(EnhancedForLoopTree tree, Void none) {
        breachIf(typeOf(tree.getExpression()).getKind() != TypeKind.ARRAY, 12,
                "a loop that makes an iterator");
        return super.visitEnhancedForLoop(tree, none);
    }

    private void hasEnd(ExpressionTree condition) {
        String words = condition == null ? "" : condition.toString();
        breachIf(!words.matches(".*[<>].*"), 9, "a loop without a counter's bound");
    }

    private void lookAtMethods() {
        for (ExecutableElement method : methods) {
            String name = method.getSimpleName().toString();
            boolean open = method.getModifiers().contains(Modifier.PUBLIC);
            boolean named = method.getKind() != ElementKind.CONSTRUCTOR;
            if (named && !open && openNames.contains(name)) {
                breaches.add("rule 1: " + method + " bears the name of a public one");
            }
            if (depth(method, new LinkedHashSet<>()) > 8) {
                breaches.add("rule 11: " + method + " calls more than eight deep");
            }
            if (open) {
                lookAtThrown(method);
            }
        }
    }

    private void lookAtThrown(ExecutableElement method) {
        Set<String> due = new LinkedHashSet<>();
        for (TypeMirror type : method.getThrownTypes()) {
            due.add(type.toString().replaceAll(".*\\.", ""));
        }
        Set<String> found = thrownBy(method, new LinkedHashSet<>());
        if (!found.equals(due)) {
            breaches.add("rule 6: " + method + " names " + due + ", throws " + found);
        }
    }

    /** How many calls stand open at once below and with this one, recursion left out. */
    private int depth(Element method, Set<Element> above) {
        int deepest = 0;
        above.add(method);
        for (Element called : calls.getOrDefault(method, Set.of())) {
            if (!above.contains(called)) {
                deepest = Math.max(deepest, depth(called, above));
            } else if (called != method || !isPrivateStatic(called)) {
                breaches.add("rule 8: " + method + " calls " + called + " in a circle");
            }
        }
        above.remove(method);
        return deepest + 1;
    }

    private static boolean isPrivateStatic(Element method) {
        return method.getModifiers().contains(Modifier.PRIVATE)
                && method.getModifiers().contains(Modifier.STATIC);
    }

    private Set<String> thrownBy(Element method, Set<Element> seen) {
        Set<String> found = new LinkedHashSet<>(thrown.getOrDefault(method, Set.of()));
        seen.add(method);
        for (Element called : calls.getOrDefault(method, Set.of())) {
            if (!seen.contains(called)) {
                found.addAll(thrownBy(called, seen));
            }
        }
        return found;
    }
}
