import com.sun.source.tree.*;
import com.sun.source.util.JavacTask;
import com.sun.source.util.TreePath;
import com.sun.source.util.TreePathScanner;
import com.sun.source.util.Trees;
import java.io.IOException;
import java.net.URI;
import java.util.ArrayDeque;
import java.util.ArrayList;
import java.util.Deque;
import java.util.HashMap;
import java.util.LinkedHashMap;
import java.util.LinkedHashSet;
import java.util.List;
import java.util.Map;
import java.util.Set;
import java.util.TreeSet;
import javax.lang.model.element.Element;
import javax.lang.model.element.ElementKind;
import javax.lang.model.element.ExecutableElement;
import javax.lang.model.element.Modifier;
import javax.lang.model.element.TypeElement;
import javax.lang.model.type.ArrayType;
import javax.lang.model.type.DeclaredType;
import javax.lang.model.type.TypeKind;
import javax.lang.model.type.TypeMirror;
import javax.tools.JavaCompiler;
import javax.tools.JavaFileObject;
import javax.tools.SimpleJavaFileObject;
import javax.tools.ToolProvider;

/**
 * What a source breaks of LANGUAGE.md, as the compiler reads it: each finding begins with the rule's number. It
 * is narrower than the rules where EachEye needs less than they leave (no recursion, no generics, no casts of
 * references, no object made in a loop of its own lines), and says nothing of rule 7, for which calls are tried.
 */
final class Rules extends TreePathScanner<Void, Void> {
    private static final Set<String> LIBRARY = Set.of(
            "String.length", "String.charAt", "String.isEmpty", "String.equals", "String.indexOf",
            "String.substring", "String.toCharArray", "StringBuilder.append", "StringBuilder.charAt",
            "StringBuilder.setCharAt", "StringBuilder.setLength", "StringBuilder.deleteCharAt",
            "StringBuilder.reverse", "StringBuilder.length", "StringBuilder.toString",
            "Integer.compare", "Integer.max", "Integer.min", "Integer.bitCount",
            "Long.compare", "Long.max", "Long.min", "Long.bitCount",
            "Math.max", "Math.min", "Math.abs", "Math.floorDiv", "Math.floorMod",
            "System.arraycopy", "Arrays.copyOf", "Arrays.copyOfRange", "Arrays.fill");
    private static final int MOST_PARAMETERS = 7;
    private static final int LONGEST_METHOD = 60;
    private static final int DEEPEST_CALLS = 8;
    private static final int MOST_CLASSES = 12;
    private static final int MOST_FIELDS = 20;

    private final Trees trees;
    private final CompilationUnitTree unit;
    private final Set<String> found = new LinkedHashSet<>();
    private final Map<ExecutableElement, Set<ExecutableElement>> calls = new LinkedHashMap<>();
    private final Deque<ExecutableElement> inMethod = new ArrayDeque<>();
    private final Set<String> openNames = new TreeSet<>();
    private int loops = 0;
    private int classes = 0;

    private Rules(Trees trees, CompilationUnitTree unit) {
        this.trees = trees;
        this.unit = unit;
    }

    static List<String> broken(String name, String source) throws IOException {
        JavaFileObject file = new SimpleJavaFileObject(URI.create("string:///" + name + ".java"),
                JavaFileObject.Kind.SOURCE) {
            @Override
            public CharSequence getCharContent(boolean ignored) {
                return source;
            }
        };
        JavaCompiler compiler = ToolProvider.getSystemJavaCompiler();
        JavacTask task = (JavacTask) compiler.getTask(null, null, null, null, null, List.of(file));
        CompilationUnitTree unit = task.parse().iterator().next();
        task.analyze();
        Rules rules = new Rules(Trees.instance(task), unit);
        rules.scan(unit, null);
        rules.lookAtTheCalls();
        rules.lookAtTheSigns(source);
        return new ArrayList<>(rules.found);
    }

    private void tell(int rule, String what, Tree where) {
        long line = unit.getLineMap().getLineNumber(trees.getSourcePositions().getStartPosition(unit, where));
        found.add(rule + ": " + what + " in line " + line);
    }

    private TypeMirror type(Tree tree) {
        return trees.getTypeMirror(new TreePath(getCurrentPath(), tree));
    }

    private boolean isOwn(Element type) {
        return type != null && trees.getTree(type) != null;
    }

    // ---- 1, 2, 5, 11: classes and what they have

    @Override
    public Void visitCompilationUnit(CompilationUnitTree tree, Void nothing) {
        if (tree.getPackage() != null) {
            tell(1, "a package line", tree);
        }
        if (tree.getTypeDecls().size() != 1) {
            tell(1, "more classes than one outside", tree);
        }
        for (ImportTree line : tree.getImports()) {
            if (!line.getQualifiedIdentifier().toString().matches("java\\.util\\.(ArrayList|List|Iterator|Arrays)")) {
                tell(4, "import of " + line.getQualifiedIdentifier(), line);
            }
        }
        return super.visitCompilationUnit(tree, nothing);
    }

    @Override
    public Void visitClass(ClassTree tree, Void nothing) {
        classes++;
        if (classes > MOST_CLASSES) {
            tell(11, "more than " + MOST_CLASSES + " classes", tree);
        }
        Tree around = getCurrentPath().getParentPath().getLeaf();
        Set<Modifier> marks = tree.getModifiers().getFlags();
        boolean isOutside = around instanceof CompilationUnitTree;
        if (!isOutside && !(around instanceof ClassTree)) {
            tell(2, "a local or anonymous class", tree);
        }
        if (isOutside && !(marks.contains(Modifier.PUBLIC) && marks.contains(Modifier.FINAL))) {
            tell(1, "a class that is not public and final", tree);
        }
        if (!isOutside && (marks.contains(Modifier.PUBLIC) || marks.contains(Modifier.PROTECTED))) {
            tell(1, "a class inside that is open", tree);
        }
        if (!isOutside && tree.getKind() == Tree.Kind.CLASS && !marks.contains(Modifier.STATIC)) {
            tell(2, "an inner class that is not static", tree);
        }
        int fields = 0;
        for (Tree member : tree.getMembers()) {
            if (member instanceof BlockTree) {
                tell(5, "a block that starts the class or its objects", member);
            }
            if (member instanceof VariableTree field) {
                fields += lookAtField(field, isOutside);
            }
            if (member instanceof MethodTree method && isOutside) {
                lookAtName(method);
            }
        }
        if (fields > MOST_FIELDS) {
            tell(11, fields + " fields", tree);
        }
        return super.visitClass(tree, nothing);
    }

    /** 1 if it is a field of each object, 0 if it is a constant. */
    private int lookAtField(VariableTree field, boolean isOutside) {
        Set<Modifier> marks = field.getModifiers().getFlags();
        boolean isStatic = marks.contains(Modifier.STATIC);
        if (isOutside && !marks.contains(Modifier.PRIVATE) && !(marks.contains(Modifier.PUBLIC) && isStatic)) {
            tell(1, "an open field " + field.getName(), field);
        }
        if (!isStatic) {
            return 1;
        }
        String type = field.getType().toString();
        if (!marks.contains(Modifier.FINAL)) {
            tell(5, "a static field " + field.getName() + " that is not final", field);
        } else if (!type.matches("(int|long|char|byte)(\\[\\])?|boolean|String")) {
            tell(5, "a static field of " + type, field);
        } else if (type.endsWith("]") && !isWrittenOut(field.getInitializer())) {
            tell(5, "a static array " + field.getName() + " that is not written out", field);
        }
        return 0;
    }

    private static boolean isWrittenOut(ExpressionTree initializer) {
        return initializer instanceof NewArrayTree array && array.getInitializers() != null;
    }

    private void lookAtName(MethodTree method) {
        Set<Modifier> marks = method.getModifiers().getFlags();
        String name = method.getName().toString();
        boolean isPublic = marks.contains(Modifier.PUBLIC);
        if (!isPublic && !marks.contains(Modifier.PRIVATE)) {
            tell(1, "a method " + name + " that is neither public nor private", method);
        }
        if (!openNames.add(name + (isPublic ? " open" : " hidden"))) {
            return;
        }
        if (openNames.contains(name + " open") && openNames.contains(name + " hidden")) {
            tell(1, "a private method with the name of a public one, " + name, method);
        }
    }

    // ---- 2, 6, 8, 11: methods

    @Override
    public Void visitMethod(MethodTree tree, Void nothing) {
        ExecutableElement method = (ExecutableElement) trees.getElement(getCurrentPath());
        calls.computeIfAbsent(method, unused -> new LinkedHashSet<>());
        if (tree.getParameters().size() > MOST_PARAMETERS) {
            tell(11, "a method of too many parameters, " + tree.getName(), tree);
        }
        if (lines(tree) > LONGEST_METHOD) {
            tell(11, "a method of " + lines(tree) + " lines, " + tree.getName(), tree);
        }
        if (Set.of("equals", "hashCode", "toString", "finalize").contains(tree.getName().toString())) {
            tell(6, "an own " + tree.getName(), tree);
        }
        if (!tree.getThrows().isEmpty()) {
            tell(6, "throws", tree);
        }
        inMethod.push(method);
        super.visitMethod(tree, nothing);
        inMethod.pop();
        return null;
    }

    private long lines(Tree tree) {
        LineMap map = unit.getLineMap();
        long from = trees.getSourcePositions().getStartPosition(unit, tree);
        long to = trees.getSourcePositions().getEndPosition(unit, tree);
        return from < 0 || to < 0 ? 0 : map.getLineNumber(to) - map.getLineNumber(from) + 1;
    }

    @Override
    public Void visitMethodInvocation(MethodInvocationTree tree, Void nothing) {
        ExecutableElement called = (ExecutableElement) trees.getElement(getCurrentPath());
        TypeElement owner = (TypeElement) called.getEnclosingElement();
        String name = owner.getSimpleName() + "." + called.getSimpleName();
        boolean isObjectsStart = name.equals("Object.<init>");
        boolean isClone = called.getSimpleName().contentEquals("clone");
        if (isOwn(owner)) {
            addCall(called, tree);
        } else if (!LIBRARY.contains(name) && !isObjectsStart && !isClone) {
            tell(4, "a call of " + name, tree);
        }
        return super.visitMethodInvocation(tree, nothing);
    }

    private void addCall(ExecutableElement called, Tree where) {
        if (inMethod.isEmpty()) {
            return;
        }
        calls.get(inMethod.peek()).add(called);
        boolean isInConstructor = inMethod.peek().getKind() == ElementKind.CONSTRUCTOR;
        Set<Modifier> marks = called.getModifiers();
        if (isInConstructor && called.getKind() == ElementKind.METHOD
                && !marks.contains(Modifier.STATIC) && !marks.contains(Modifier.PRIVATE)) {
            tell(12, "a constructor's call of " + called.getSimpleName() + ", which could be overridden", where);
        }
    }

    @Override
    public Void visitLambdaExpression(LambdaExpressionTree tree, Void nothing) {
        tell(2, "a lambda", tree);
        return super.visitLambdaExpression(tree, nothing);
    }

    @Override
    public Void visitMemberReference(MemberReferenceTree tree, Void nothing) {
        tell(2, "a method reference", tree);
        return super.visitMemberReference(tree, nothing);
    }

    // ---- 3: types

    @Override
    public Void visitVariable(VariableTree tree, Void nothing) {
        TypeMirror type = trees.getTypeMirror(getCurrentPath());
        if (!isAllowed(type)) {
            tell(3, "a variable of type " + type, tree);
        }
        return super.visitVariable(tree, nothing);
    }

    private boolean isAllowed(TypeMirror type) {
        if (type == null || type.getKind() == TypeKind.VOID || type.getKind().isPrimitive()) {
            return true;
        }
        if (type instanceof ArrayType array) {
            TypeMirror of = array.getComponentType();
            return of instanceof ArrayType inner ? inner.getComponentType().getKind().isPrimitive()
                    : of.getKind().isPrimitive() || isOwnType(of);
        }
        return isOwnType(type) || Set.of("java.lang.String", "java.lang.StringBuilder").contains(type.toString());
    }

    private boolean isOwnType(TypeMirror type) {
        return type instanceof DeclaredType declared && isOwn(declared.asElement());
    }

    // ---- 6, 10: statements and expressions

    @Override
    public Void visitThrow(ThrowTree tree, Void nothing) {
        tell(6, "throw", tree);
        return super.visitThrow(tree, nothing);
    }

    @Override
    public Void visitTry(TryTree tree, Void nothing) {
        tell(6, "try", tree);
        return super.visitTry(tree, nothing);
    }

    @Override
    public Void visitSynchronized(SynchronizedTree tree, Void nothing) {
        tell(6, "synchronized", tree);
        return super.visitSynchronized(tree, nothing);
    }

    @Override
    public Void visitAssert(AssertTree tree, Void nothing) {
        tell(6, "assert", tree);
        return super.visitAssert(tree, nothing);
    }

    @Override
    public Void visitTypeCast(TypeCastTree tree, Void nothing) {
        if (!type(tree.getType()).getKind().isPrimitive()) {
            tell(6, "a cast to " + tree.getType(), tree);
        }
        return super.visitTypeCast(tree, nothing);
    }

    @Override
    public Void visitBinary(BinaryTree tree, Void nothing) {
        boolean ofTexts = isText(tree.getLeftOperand()) || isText(tree.getRightOperand());
        if (ofTexts && (tree.getKind() == Tree.Kind.EQUAL_TO || tree.getKind() == Tree.Kind.NOT_EQUAL_TO)) {
            tell(6, "two texts compared by " + tree.getKind(), tree);
        }
        if (ofTexts && tree.getKind() == Tree.Kind.PLUS) {
            tell(10, "texts joined by +", tree);
        }
        boolean divides = tree.getKind() == Tree.Kind.DIVIDE || tree.getKind() == Tree.Kind.REMAINDER;
        if (divides && !isConstant(tree.getRightOperand())) {
            tell(7, "a divisor that is no constant", tree);
        }
        return super.visitBinary(tree, nothing);
    }

    private boolean isText(Tree operand) {
        TypeMirror type = type(operand);
        return type != null && Set.of("java.lang.String", "java.lang.Integer").contains(type.toString());
    }

    /** A number, a constant by name, or such ones joined. */
    private static boolean isConstant(Tree divisor) {
        return divisor.toString().matches("\\(?[A-Z0-9_]+( \\* [A-Z0-9_]+)*\\)?");
    }

    // ---- 9, 12: loops, and what is made in them

    @Override
    public Void visitForLoop(ForLoopTree tree, Void nothing) {
        String condition = String.valueOf(tree.getCondition());
        if (tree.getCondition() == null || condition.equals("true")) {
            tell(9, "a for without an end", tree);
        } else if (tree.getInitializer().size() != 1
                || !(tree.getInitializer().get(0) instanceof VariableTree counter)) {
            tell(9, "a for without one counter", tree);
        } else {
            lookAtCounter(tree, counter.getName().toString(), condition);
        }
        loops++;
        super.visitForLoop(tree, nothing);
        loops--;
        return null;
    }

    /** The counter goes one way, is compared, and is set nowhere else. */
    private void lookAtCounter(ForLoopTree tree, String counter, String condition) {
        if (!condition.matches("\\(?" + counter + " (<|<=|>=|>) .*")) {
            tell(9, "a for whose condition does not begin with its counter", tree);
        }
        String step = tree.getUpdate().toString().replaceAll(";$", "");
        if (!Set.of(counter + "++", counter + "--", "++" + counter, "--" + counter).contains(step)) {
            tell(9, "a for whose counter does not go on by one, but by " + step, tree);
        }
        new TreePathScanner<Void, Void>() {
            @Override
            public Void visitAssignment(AssignmentTree set, Void nothing) {
                return look(set.getVariable(), set);
            }

            @Override
            public Void visitCompoundAssignment(CompoundAssignmentTree set, Void nothing) {
                return look(set.getVariable(), set);
            }

            @Override
            public Void visitUnary(UnaryTree set, Void nothing) {
                return set.getKind().toString().contains("CREMENT") ? look(set.getExpression(), set)
                        : super.visitUnary(set, nothing);
            }

            private Void look(Tree variable, Tree where) {
                if (variable.toString().equals(counter)) {
                    tell(9, "a for's counter that is set in it", where);
                }
                return null;
            }
        }.scan(new TreePath(getCurrentPath(), tree.getStatement()), null);
    }

    @Override
    public Void visitWhileLoop(WhileLoopTree tree, Void nothing) {
        lookAtCondition(tree.getCondition(), tree);
        loops++;
        super.visitWhileLoop(tree, nothing);
        loops--;
        return null;
    }

    @Override
    public Void visitDoWhileLoop(DoWhileLoopTree tree, Void nothing) {
        lookAtCondition(tree.getCondition(), tree);
        loops++;
        super.visitDoWhileLoop(tree, nothing);
        loops--;
        return null;
    }

    private void lookAtCondition(Tree condition, Tree where) {
        if (!condition.toString().contains("<") && !condition.toString().contains(">")) {
            tell(9, "a loop whose condition compares no counter", where);
        }
    }

    @Override
    public Void visitNewClass(NewClassTree tree, Void nothing) {
        ExecutableElement made = (ExecutableElement) trees.getElement(getCurrentPath());
        TypeElement owner = made == null ? null : (TypeElement) made.getEnclosingElement();
        if (isOwn(owner) && tree.getClassBody() == null) {
            addCall(made, tree);
        } else if (owner != null && !Set.of("String", "StringBuilder").contains(owner.getSimpleName().toString())
                && tree.getClassBody() == null) {
            tell(4, "new " + owner.getSimpleName(), tree);
        }
        if (loops > 0) {
            tell(12, "an object made in a loop", tree);
        }
        return super.visitNewClass(tree, nothing);
    }

    @Override
    public Void visitNewArray(NewArrayTree tree, Void nothing) {
        for (ExpressionTree length : tree.getDimensions()) {
            if (!isConstant(length)) {
                tell(7, "an array's length that is no constant", tree);
            }
        }
        if (loops > 0) {
            tell(12, "an array made in a loop", tree);
        }
        return super.visitNewArray(tree, nothing);
    }

    // ---- 8, 11: how deep calls go

    private void lookAtTheCalls() {
        Map<ExecutableElement, Integer> depths = new HashMap<>();
        for (ExecutableElement method : calls.keySet()) {
            int depth = depth(method, depths, new ArrayDeque<>());
            if (depth > DEEPEST_CALLS) {
                found.add("11: calls go " + depth + " deep from " + method.getSimpleName());
            }
        }
    }

    /** How many calls stand open at once, that of the method among them. */
    private int depth(ExecutableElement method, Map<ExecutableElement, Integer> depths,
            Deque<ExecutableElement> open) {
        if (open.contains(method)) {
            found.add("8: " + method.getSimpleName() + " calls itself");
            return 0;
        }
        if (depths.containsKey(method)) {
            return depths.get(method);
        }
        open.push(method);
        int deepest = 0;
        for (ExecutableElement called : calls.getOrDefault(method, Set.of())) {
            for (ExecutableElement meant : calls.keySet()) {
                if (meant.equals(called) || overrides(meant, called)) {
                    deepest = Math.max(deepest, depth(meant, depths, open));
                }
            }
        }
        open.pop();
        depths.put(method, deepest + 1);
        return deepest + 1;
    }

    /** By name and parameters, in whichever class: rather one too many than one too few. */
    private static boolean overrides(ExecutableElement meant, ExecutableElement called) {
        return meant.getKind() == ElementKind.METHOD && meant.getSimpleName().equals(called.getSimpleName())
                && meant.getParameters().size() == called.getParameters().size()
                && !called.getModifiers().contains(Modifier.STATIC)
                && !called.getModifiers().contains(Modifier.PRIVATE);
    }

    // ---- 4: the signs of the source, and with them those of its constant texts

    private void lookAtTheSigns(String source) {
        if (!source.chars().allMatch(sign -> sign == '\n' || sign >= 32 && sign < 127)) {
            found.add("4: a sign that is not plain");
        }
    }
}
