import com.sun.source.tree.AssertTree;
import com.sun.source.tree.BinaryTree;
import com.sun.source.tree.BlockTree;
import com.sun.source.tree.ClassTree;
import com.sun.source.tree.CompilationUnitTree;
import com.sun.source.tree.CompoundAssignmentTree;
import com.sun.source.tree.DoWhileLoopTree;
import com.sun.source.tree.ExpressionTree;
import com.sun.source.tree.ForLoopTree;
import com.sun.source.tree.IdentifierTree;
import com.sun.source.tree.ImportTree;
import com.sun.source.tree.LambdaExpressionTree;
import com.sun.source.tree.LiteralTree;
import com.sun.source.tree.MemberReferenceTree;
import com.sun.source.tree.MemberSelectTree;
import com.sun.source.tree.MethodInvocationTree;
import com.sun.source.tree.MethodTree;
import com.sun.source.tree.NewArrayTree;
import com.sun.source.tree.NewClassTree;
import com.sun.source.tree.ParenthesizedTree;
import com.sun.source.tree.SynchronizedTree;
import com.sun.source.tree.ThrowTree;
import com.sun.source.tree.Tree;
import com.sun.source.tree.TryTree;
import com.sun.source.tree.TypeCastTree;
import com.sun.source.tree.VariableTree;
import com.sun.source.tree.WhileLoopTree;
import com.sun.source.util.JavacTask;
import com.sun.source.util.TreePath;
import com.sun.source.util.TreePathScanner;
import com.sun.source.util.Trees;
import java.io.IOException;
import java.net.URI;
import java.util.ArrayList;
import java.util.HashMap;
import java.util.HashSet;
import java.util.LinkedHashSet;
import java.util.List;
import java.util.Map;
import java.util.Set;
import javax.lang.model.element.Element;
import javax.lang.model.element.ElementKind;
import javax.lang.model.element.Modifier;
import javax.lang.model.element.NestingKind;
import javax.lang.model.element.TypeElement;
import javax.lang.model.type.ArrayType;
import javax.lang.model.type.DeclaredType;
import javax.lang.model.type.TypeKind;
import javax.lang.model.type.TypeMirror;
import javax.tools.Diagnostic;
import javax.tools.DiagnosticCollector;
import javax.tools.JavaFileObject;
import javax.tools.SimpleJavaFileObject;
import javax.tools.ToolProvider;

/**
 * The rules of LANGUAGE.md that a program's text can be held against, as javac itself reads the
 * text. Each offence begins with the number of its rule.
 */
final class Language extends TreePathScanner<Void, Void> {
    private static final int MOST_CLASSES = 12;
    private static final int MOST_FIELDS = 20;
    private static final int MOST_PARAMETERS = 7;
    private static final int MOST_LINES = 60;
    private static final int MOST_DEEP = 8;

    private static final Set<String> TYPES = Set.of("java.lang.String", "java.lang.StringBuilder",
            "java.lang.Integer", "java.util.ArrayList", "java.util.List", "java.util.Iterator",
            "java.lang.Iterable", "java.lang.Comparable");

    /** Rule 4; of Integer, Long and Math all but the ones that throw. */
    private static final Map<String, Set<String>> LIBRARY = Map.of(
            "java.lang.String", Set.of("length", "charAt", "isEmpty", "equals", "indexOf", "substring",
                    "toCharArray"),
            "java.lang.StringBuilder", Set.of("append", "charAt", "setCharAt", "setLength",
                    "deleteCharAt", "reverse", "length", "toString"),
            "java.util.ArrayList", Set.of("add", "get", "set", "remove", "size", "isEmpty", "clear"),
            "java.util.List", Set.of("add", "get", "set", "remove", "size", "isEmpty", "clear", "of"),
            "java.lang.System", Set.of("arraycopy"),
            "java.util.Arrays", Set.of("copyOf", "copyOfRange", "fill"),
            "java.util.Iterator", Set.of("hasNext", "next"),
            "java.lang.Iterable", Set.of("iterator"),
            "java.lang.Comparable", Set.of("compareTo"));
    private static final Set<String> NUMBERS = Set.of("java.lang.Integer", "java.lang.Long",
            "java.lang.Math");
    private static final Set<String> MADE = Set.of("java.lang.String", "java.lang.StringBuilder",
            "java.util.ArrayList");
    private static final Set<TypeKind> CONSTANTS = Set.of(TypeKind.INT, TypeKind.LONG,
            TypeKind.BOOLEAN, TypeKind.CHAR);
    private static final Set<TypeKind> CONSTANT_ROWS = Set.of(TypeKind.INT, TypeKind.LONG,
            TypeKind.CHAR, TypeKind.BYTE);

    private final Trees trees;
    private final CompilationUnitTree unit;
    private final List<String> offences = new ArrayList<>();
    private final Map<Element, Set<Element>> calls = new HashMap<>();
    private int classes;

    private Language(Trees trees, CompilationUnitTree unit) {
        this.trees = trees;
        this.unit = unit;
    }

    /** What in a text, the one of a class StrokeBoard, stands outside the rules. */
    static List<String> offences(String text) {
        DiagnosticCollector<JavaFileObject> told = new DiagnosticCollector<>();
        JavacTask task = (JavacTask) ToolProvider.getSystemJavaCompiler().getTask(null, null, told,
                List.of("-proc:none"), null, List.of(new Text(text)));
        try {
            CompilationUnitTree unit = task.parse().iterator().next();
            task.analyze();
            Language language = new Language(Trees.instance(task), unit);
            for (Diagnostic<?> error : told.getDiagnostics()) {
                language.offences.add("no Java: " + error);
            }
            language.check();
            return language.offences;
        } catch (IOException unreadable) {
            throw new IllegalStateException(unreadable);
        }
    }

    private static final class Text extends SimpleJavaFileObject {
        private final String text;

        Text(String text) {
            super(URI.create("string:///StrokeBoard.java"), Kind.SOURCE);
            this.text = text;
        }

        @Override
        public CharSequence getCharContent(boolean ignoreErrors) {
            return text;
        }
    }

    private void check() {
        if (unit.getPackage() != null) {
            offences.add("rule 1: a package line");
        }
        if (unit.getTypeDecls().size() != 1) {
            offences.add("rule 2: more than one class outside");
        }
        scan(unit, null);
        if (classes > MOST_CLASSES) {
            offences.add("rule 11: " + classes + " classes");
        }
        for (Element method : calls.keySet()) {
            int depth = depth(method, new HashSet<>());
            if (depth > MOST_DEEP) {
                offences.add("rule 11: calls go " + depth + " deep from " + method);
            }
        }
    }

    private long line(Tree tree) {
        long start = trees.getSourcePositions().getStartPosition(unit, tree);
        return unit.getLineMap().getLineNumber(Math.max(start, 0));
    }

    private void offends(int rule, String what, Tree tree) {
        offences.add("rule " + rule + ": " + what + ", line " + line(tree));
    }

    private Element element(Tree tree) {
        return trees.getElement(new TreePath(getCurrentPath(), tree));
    }

    private TypeMirror type(Tree tree) {
        return trees.getTypeMirror(new TreePath(getCurrentPath(), tree));
    }

    private static TypeElement outermost(Element element) {
        Element at = element;
        while (at != null && !(at instanceof TypeElement type && type.getNestingKind() == NestingKind.TOP_LEVEL)) {
            at = at.getEnclosingElement();
        }
        return (TypeElement) at;
    }

    private static boolean isOwn(Element element) {
        TypeElement outer = outermost(element);
        return outer != null && outer.getQualifiedName().contentEquals("StrokeBoard");
    }

    private static String nameOf(Element type) {
        return type instanceof TypeElement named ? named.getQualifiedName().toString() : "";
    }

    private static boolean isText(TypeMirror type) {
        return type != null && type.toString().equals("java.lang.String");
    }

    private static boolean isBoxed(TypeMirror type) {
        return type != null && type.toString().equals("java.lang.Integer");
    }

    private static boolean isAllowed(TypeMirror type) {
        if (type instanceof ArrayType row) {
            TypeMirror part = row.getComponentType();
            if (part instanceof ArrayType second) {
                return second.getComponentType().getKind().isPrimitive()
                        && second.getComponentType().getKind() != TypeKind.BOOLEAN;
            }
            return part.getKind().isPrimitive() || part.getKind() == TypeKind.TYPEVAR
                    || part instanceof DeclaredType own && isOwn(own.asElement());
        }
        if (type instanceof DeclaredType declared) {
            return isOwn(declared.asElement()) || TYPES.contains(nameOf(declared.asElement()));
        }
        return true;
    }

    @Override
    public Void visitImport(ImportTree tree, Void none) {
        String name = tree.getQualifiedIdentifier().toString();
        if (!TYPES.contains(name) && !LIBRARY.containsKey(name)) {
            offends(4, "the import of " + name, tree);
        }
        return null;
    }

    @Override
    public Void visitClass(ClassTree tree, Void none) {
        classes++;
        Element element = trees.getElement(getCurrentPath());
        Tree around = getCurrentPath().getParentPath().getLeaf();
        boolean isOutside = around instanceof CompilationUnitTree;
        if (!isOutside && !(around instanceof ClassTree)) {
            offends(2, "a local or anonymous class", tree);
        } else if (!isOutside && !element.getModifiers().contains(Modifier.STATIC)) {
            offends(2, "an inner class that is not static", tree);
        }
        if (!isOutside && (element.getModifiers().contains(Modifier.PUBLIC)
                || element.getModifiers().contains(Modifier.PROTECTED))) {
            offends(1, "a class inside that is to be seen", tree);
        }
        checkMembers(tree);
        return super.visitClass(tree, none);
    }

    private void checkMembers(ClassTree tree) {
        int fields = 0;
        for (Tree member : tree.getMembers()) {
            if (member instanceof BlockTree block && block.isStatic()) {
                offends(5, "a static initialiser block", member);
            }
            if (member instanceof VariableTree field
                    && !field.getModifiers().getFlags().contains(Modifier.STATIC)) {
                fields++;
            }
        }
        if (fields > MOST_FIELDS) {
            offends(11, fields + " fields", tree);
        }
    }

    @Override
    public Void visitVariable(VariableTree tree, Void none) {
        Element element = trees.getElement(getCurrentPath());
        TypeMirror type = trees.getTypeMirror(getCurrentPath());
        if (type != null && !isAllowed(type)) {
            offends(3, "a " + type, tree);
        }
        if (element != null && element.getKind() == ElementKind.FIELD
                && element.getModifiers().contains(Modifier.STATIC)) {
            checkStatic(tree, element, type);
        }
        return super.visitVariable(tree, none);
    }

    private void checkStatic(VariableTree tree, Element element, TypeMirror type) {
        if (!element.getModifiers().contains(Modifier.FINAL)) {
            offends(5, "a static field that is not final", tree);
        }
        boolean isRow = type instanceof ArrayType row
                && CONSTANT_ROWS.contains(row.getComponentType().getKind());
        boolean isWritten = tree.getInitializer() instanceof NewArrayTree made
                && made.getInitializers() != null;
        if (!CONSTANTS.contains(type.getKind()) && !isText(type) && !(isRow && isWritten)) {
            offends(5, "a static field of type " + type, tree);
        }
    }

    @Override
    public Void visitMethod(MethodTree tree, Void none) {
        Element element = trees.getElement(getCurrentPath());
        calls.put(element, new LinkedHashSet<>());
        if (tree.getParameters().size() > MOST_PARAMETERS) {
            offends(11, tree.getParameters().size() + " parameters", tree);
        }
        if (!tree.getThrows().isEmpty()) {
            offends(6, "throws", tree);
        }
        if (tree.getReturnType() != null && !isAllowed(type(tree.getReturnType()))) {
            offends(3, "a method of type " + tree.getReturnType(), tree);
        }
        long end = trees.getSourcePositions().getEndPosition(unit, tree);
        long lines = end < 0 ? 1 : unit.getLineMap().getLineNumber(end) - line(tree) + 1;
        if (lines > MOST_LINES) {
            offends(11, "a method of " + lines + " lines", tree);
        }
        return super.visitMethod(tree, none);
    }

    @Override
    public Void visitMethodInvocation(MethodInvocationTree tree, Void none) {
        Element called = element(tree.getMethodSelect());
        if (called != null && isOwn(called)) {
            Element caller = callerOf(getCurrentPath());
            if (caller != null && called.getKind() == ElementKind.METHOD) {
                calls.get(caller).add(called);
            }
        } else if (called != null && !isLibrary(tree, called)) {
            offends(4, "a call of " + nameOf(called.getEnclosingElement()) + "." + called, tree);
        }
        return super.visitMethodInvocation(tree, none);
    }

    private Element callerOf(TreePath path) {
        TreePath at = path;
        while (at != null && !(at.getLeaf() instanceof MethodTree)) {
            at = at.getParentPath();
        }
        return at == null ? null : trees.getElement(at);
    }

    private boolean isLibrary(MethodInvocationTree tree, Element called) {
        String name = called.getSimpleName().toString();
        String owner = nameOf(called.getEnclosingElement());
        boolean isStatic = called.getModifiers().contains(Modifier.STATIC);
        if (called.getKind() == ElementKind.CONSTRUCTOR) {
            return true;
        }
        if (name.equals("clone") && tree.getMethodSelect() instanceof MemberSelectTree select) {
            return trees.getTypeMirror(new TreePath(new TreePath(getCurrentPath(),
                    tree.getMethodSelect()), select.getExpression())) instanceof ArrayType;
        }
        if (NUMBERS.contains(owner)) {
            return isStatic && !name.endsWith("Exact") && !name.equals("random");
        }
        return LIBRARY.getOrDefault(owner, Set.of()).contains(name);
    }

    @Override
    public Void visitNewClass(NewClassTree tree, Void none) {
        Element made = element(tree.getIdentifier());
        if (made != null && !isOwn(made) && !MADE.contains(nameOf(made))) {
            offends(4, "a new " + nameOf(made), tree);
        }
        return super.visitNewClass(tree, none);
    }

    @Override
    public Void visitIdentifier(IdentifierTree tree, Void none) {
        checkField(trees.getElement(getCurrentPath()), tree);
        return super.visitIdentifier(tree, none);
    }

    @Override
    public Void visitMemberSelect(MemberSelectTree tree, Void none) {
        checkField(trees.getElement(getCurrentPath()), tree);
        return super.visitMemberSelect(tree, none);
    }

    private void checkField(Element used, Tree tree) {
        boolean isField = used != null && used.getKind() == ElementKind.FIELD;
        if (isField && !isOwn(used) && !used.getSimpleName().contentEquals("length")) {
            offends(4, "the field " + used + " of the library", tree);
        }
    }

    @Override
    public Void visitLiteral(LiteralTree tree, Void none) {
        if (tree.getValue() instanceof String text) {
            for (int k = 0; k < text.length(); k++) {
                if (text.charAt(k) < 1 || text.charAt(k) > 127) {
                    offends(4, "a sign of the number " + (int) text.charAt(k), tree);
                }
            }
        }
        return null;
    }

    @Override
    public Void visitLambdaExpression(LambdaExpressionTree tree, Void none) {
        offends(2, "a lambda", tree);
        return super.visitLambdaExpression(tree, none);
    }

    @Override
    public Void visitMemberReference(MemberReferenceTree tree, Void none) {
        offends(2, "a method reference", tree);
        return super.visitMemberReference(tree, none);
    }

    @Override
    public Void visitThrow(ThrowTree tree, Void none) {
        offends(6, "throw", tree);
        return super.visitThrow(tree, none);
    }

    @Override
    public Void visitTry(TryTree tree, Void none) {
        offends(6, "try", tree);
        return super.visitTry(tree, none);
    }

    @Override
    public Void visitSynchronized(SynchronizedTree tree, Void none) {
        offends(6, "synchronized", tree);
        return super.visitSynchronized(tree, none);
    }

    @Override
    public Void visitAssert(AssertTree tree, Void none) {
        offends(6, "assert", tree);
        return super.visitAssert(tree, none);
    }

    @Override
    public Void visitTypeCast(TypeCastTree tree, Void none) {
        if (type(tree.getType()) instanceof DeclaredType declared && !isOwn(declared.asElement())) {
            offends(6, "a cast to " + declared, tree);
        }
        return super.visitTypeCast(tree, none);
    }

    @Override
    public Void visitBinary(BinaryTree tree, Void none) {
        TypeMirror left = type(tree.getLeftOperand());
        TypeMirror right = type(tree.getRightOperand());
        boolean isEquality = tree.getKind() == Tree.Kind.EQUAL_TO || tree.getKind() == Tree.Kind.NOT_EQUAL_TO;
        if (isEquality && (isText(left) && isText(right) || isBoxed(left) && isBoxed(right))) {
            offends(6, "== between " + left + "s", tree);
        }
        if (tree.getKind() == Tree.Kind.PLUS && (isText(left) || isText(right))) {
            offends(10, "texts joined by +", tree);
        }
        return super.visitBinary(tree, none);
    }

    @Override
    public Void visitCompoundAssignment(CompoundAssignmentTree tree, Void none) {
        if (tree.getKind() == Tree.Kind.PLUS_ASSIGNMENT && isText(type(tree.getVariable()))) {
            offends(10, "texts joined by +=", tree);
        }
        return super.visitCompoundAssignment(tree, none);
    }

    @Override
    public Void visitWhileLoop(WhileLoopTree tree, Void none) {
        checkLoop(tree.getCondition(), tree);
        return super.visitWhileLoop(tree, none);
    }

    @Override
    public Void visitDoWhileLoop(DoWhileLoopTree tree, Void none) {
        checkLoop(tree.getCondition(), tree);
        return super.visitDoWhileLoop(tree, none);
    }

    @Override
    public Void visitForLoop(ForLoopTree tree, Void none) {
        checkLoop(tree.getCondition(), tree);
        return super.visitForLoop(tree, none);
    }

    private void checkLoop(ExpressionTree condition, Tree tree) {
        ExpressionTree inner = condition instanceof ParenthesizedTree around
                ? around.getExpression() : condition;
        boolean isAlways = inner instanceof LiteralTree literal && Boolean.TRUE.equals(literal.getValue());
        if (inner == null || isAlways) {
            offends(9, "a loop whose lines tell no end", tree);
        }
    }

    /** How many calls stand open at most, the one of the method itself among them; no recursion. */
    private int depth(Element method, Set<Element> open) {
        int deepest = 0;
        open.add(method);
        for (Element called : calls.getOrDefault(method, Set.of())) {
            if (!open.contains(called)) {
                deepest = Math.max(deepest, depth(called, open));
            }
        }
        open.remove(method);
        return deepest + 1;
    }
}
