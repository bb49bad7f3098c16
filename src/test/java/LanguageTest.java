import com.sun.source.tree.*;
import com.sun.source.util.JavacTask;
import com.sun.source.util.TreePath;
import com.sun.source.util.TreePathScanner;
import com.sun.source.util.Trees;
import java.io.IOException;
import java.net.URI;
import java.nio.charset.StandardCharsets;
import java.nio.file.Files;
import java.nio.file.Path;
import java.util.ArrayList;
import java.util.HashSet;
import java.util.List;
import java.util.Map;
import java.util.Set;
import java.util.TreeMap;
import java.util.TreeSet;
import javax.lang.model.element.Element;
import javax.lang.model.element.ElementKind;
import javax.lang.model.element.ExecutableElement;
import javax.lang.model.element.Modifier;
import javax.lang.model.element.VariableElement;
import javax.lang.model.type.ArrayType;
import javax.lang.model.type.TypeKind;
import javax.lang.model.type.TypeMirror;
import javax.tools.DiagnosticCollector;
import javax.tools.JavaFileObject;
import javax.tools.SimpleJavaFileObject;
import javax.tools.ToolProvider;

/**
 * The program against ../shared/LANGUAGE.md, rule by rule, over the compiler's own tree. It is stricter than the
 * rules where the program needs less than they leave (no while, no list, no cast of objects, nothing made in a
 * call). Each look is shown a small program that breaks the rule, too: one that finds nothing there is no look.
 * Run from the project's root.
 */
public final class LanguageTest {
    private static final Set<String> LIBRARY = Set.of("java.lang.Integer.bitCount", "java.lang.Math.min", "java.lang.Math.max");
    private static final int MOST_DEEP = 8;
    private static final int MOST_LINES = 60;
    private static final int MOST_PARAMETERS = 7;
    private static final int MOST_CLASSES = 12;
    private static final int MOST_FIELDS = 20;

    private static int wrong = 0;

    public static void main(String[] args) throws Exception {
        String program = Files.readString(Path.of("src/main/java/WithoutThem.java"), StandardCharsets.ISO_8859_1);
        for (String fault : faultsOf(program)) {
            tell("against the language: " + fault);
        }
        for (String[] broken : BROKEN) {
            mustFind(broken[0], broken[1]);
        }
        keepsQuiet();
        System.out.println(wrong == 0 ? "the language is kept" : wrong + " rules are not kept");
        if (wrong != 0) {
            System.exit(1);
        }
    }

    private static void tell(String what) {
        wrong++;
        System.out.println(what);
    }

    private static void mustFind(String rule, String members) throws IOException {
        List<String> found = faultsOf("public final class WithoutThem { " + members + " }");
        boolean isFound = false;
        for (String fault : found) {
            isFound |= fault.startsWith("rule " + rule + ":");
        }
        if (!isFound) {
            tell("rule " + rule + " is broken, but found is " + found + " in: " + members);
        }
    }

    private static void keepsQuiet() throws IOException {
        List<String> found = faultsOf("public final class WithoutThem { private final int[] row = new int[4];"
            + " public int sum(int most) { int s = 0; for (int i = 0; i < most && i < row.length; i++) { s += row[i] / 2; }"
            + " return most != 0 ? s / most : Math.max(s, 0); } }");
        if (!found.isEmpty()) {
            tell("nothing is broken, but found is " + found);
        }
    }

    /** A rule, and members of a class that break it. */
    private static final String[][] BROKEN = {
        {"1", "public static int f() { return 0; }"},
        {"1", "int f() { return 0; }"},
        {"1", "protected int x;"},
        {"1", "public int x() { return 0; } private int x(int i) { return i; }"},
        {"1", "public int x() { return 0; } private static final class A { int x() { return 1; } }"},
        {"2", "private final class A { }"},
        {"2", "private void f() { class A { } }"},
        {"2", "private void f() { Runnable r = () -> { }; }"},
        {"2", "private void f() { Runnable r = this::f; }"},
        {"2", "private void f() { Object o = new Object() { }; }"},
        {"3", "private Object o;"},
        {"3", "private int[][][] rows;"},
        {"3", "private String[][] texts;"},
        {"3", "private java.util.Map<String, String> m;"},
        {"3", "private static final String S = \"\\u0100\";"},
        {"4", "private int f() { return Math.addExact(1, 2); }"},
        {"4", "private long f() { return System.nanoTime(); }"},
        {"5", "private static int x;"},
        {"5", "private static final Object O = null;"},
        {"5", "static { }"},
        {"6", "private void f() { throw new IllegalArgumentException(); }"},
        {"6", "private void f() { try { f(); } finally { } }"},
        {"6", "private void f() { synchronized (this) { } }"},
        {"6", "private void f(int x) { assert x > 0; }"},
        {"6", "private String f(String a) { return a + a; }"},
        {"6", "private boolean f(String a, String b) { return a == b; }"},
        {"6", "private static class A { } private static class B extends A { } private B f(A a) { return (B) a; }"},
        {"7", "private int f(int a, int b) { return a / b; }"},
        {"7", "private int f(int a, int b) { return a % (b - 1); }"},
        {"7", "private int f(int a, int b) { a /= b; return a; }"},
        {"7", "private int f(int a) { return a / 0; }"},
        {"7", "private int f(int[] row, int i) { return row[i]; }"},
        {"7", "private int f(int[] row, int i) { return i < row.length ? row[i] : 0; }"},
        {"7", "private int f(int[] row, int[] other, int i) { return i >= 0 && i < other.length ? row[i] : 0; }"},
        {"7", "private int[] f(int n) { return new int[n]; }"},
        {"8", "private void f() { f(); }"},
        {"8", "private void f() { g(); } private void g() { f(); }"},
        {"9", "private void f() { for (;;) { } }"},
        {"9", "private void f(int n) { while (n > 0) { n--; } }"},
        {"9", "private void f(int n) { do { n--; } while (n > 0); }"},
        {"9", "private void f(int n) { for (int i = 0; i < n; i++) { i--; } }"},
        {"9", "private void f(int n) { for (int i = 0; n < 5; i++) { } }"},
        {"9", "private void f(int n) { for (int i = 0; i < n; i--) { } }"},
        {"11", "private void f(int a, int b, int c, int d, int e, int f, int g, int h) { }"},
        {"11", "private void f() { " + "\n".repeat(MOST_LINES) + " }"},
        {"11", "public void a() { b(); } private void b() { c(); } private void c() { d(); } private void d() { e(); }"
            + "private void e() { f(); } private void f() { g(); } private void g() { h(); } private void h() { i(); } private void i() { }"},
        {"11", "private int " + manyNames(MOST_FIELDS + 1) + ";"},
        {"11", manyClasses(MOST_CLASSES)},
        {"12", "private int[] f() { return new int[3]; }"},
        {"12", "private static class A { } private A f() { return new A(); }"},
        {"13", "private Thread t;"},
    };

    private static String manyNames(int many) {
        StringBuilder names = new StringBuilder("x0");
        for (int i = 1; i < many; i++) {
            names.append(", x").append(i);
        }
        return names.toString();
    }

    private static String manyClasses(int many) {
        StringBuilder classes = new StringBuilder();
        for (int i = 0; i < many; i++) {
            classes.append("private static class C").append(i).append(" { } ");
        }
        return classes.toString();
    }

    private static List<String> faultsOf(String source) throws IOException {
        JavaFileObject file = new SimpleJavaFileObject(URI.create("string:///WithoutThem.java"), JavaFileObject.Kind.SOURCE) {
            @Override
            public CharSequence getCharContent(boolean ignoreEncodingErrors) {
                return source;
            }
        };
        DiagnosticCollector<JavaFileObject> said = new DiagnosticCollector<>();
        JavacTask task = (JavacTask) ToolProvider.getSystemJavaCompiler().getTask(null, null, said, List.of("-proc:none"), null, List.of(file));
        CompilationUnitTree unit = task.parse().iterator().next();
        task.analyze();
        Look look = new Look(Trees.instance(task), unit, source);
        look.scan(unit, null);
        look.afterAll();
        return new ArrayList<>(look.faults);
    }

    /** Goes over the whole tree, and writes down what breaks a rule. */
    private static final class Look extends TreePathScanner<Void, Void> {
        final TreeSet<String> faults = new TreeSet<>();
        private final Trees trees;
        private final CompilationUnitTree unit;
        private final String source;
        private final Map<String, Set<String>> calls = new TreeMap<>();
        private final Set<String> face = new TreeSet<>();
        private final List<String[]> hidden = new ArrayList<>();
        private int classes = 0;

        Look(Trees trees, CompilationUnitTree unit, String source) {
            this.trees = trees;
            this.unit = unit;
            this.source = source;
        }

        private void fault(int rule, String what) {
            long line = unit.getLineMap().getLineNumber(trees.getSourcePositions().getStartPosition(unit, getCurrentPath().getLeaf()));
            faults.add("rule " + rule + ": line " + line + ": " + what);
        }

        void afterAll() {
            if (classes > MOST_CLASSES) {
                faults.add("rule 11: " + classes + " classes");
            }
            for (String[] method : hidden) {
                if (face.contains(method[1])) {
                    faults.add("rule 1: a name of the face again: " + method[0]);
                }
            }
            for (String method : calls.keySet()) {
                depth(method, new ArrayList<>());
            }
        }

        private void depth(String method, List<String> open) {
            if (open.contains(method)) {
                faults.add("rule 8: calls itself: " + method);
                return;
            }
            open.add(method);
            if (open.size() > MOST_DEEP) {
                faults.add("rule 11: calls go deeper than " + MOST_DEEP + ": " + open);
            } else {
                for (String next : calls.getOrDefault(method, Set.of())) {
                    depth(next, open);
                }
            }
            open.remove(open.size() - 1);
        }

        @Override
        public Void visitCompilationUnit(CompilationUnitTree tree, Void none) {
            for (int i = 0; i < source.length(); i++) {
                if (source.charAt(i) > 126) {
                    faults.add("rule 3: a sign above 126 at " + i);
                }
            }
            if (tree.getPackageName() != null || !tree.getImports().isEmpty() || tree.getTypeDecls().size() != 1) {
                faults.add("rule 4: a package line, an import, or a second class");
            }
            return super.visitCompilationUnit(tree, none);
        }

        @Override
        public Void visitClass(ClassTree tree, Void none) {
            classes++;
            boolean inside = getCurrentPath().getParentPath().getLeaf() instanceof ClassTree;
            boolean outermost = getCurrentPath().getParentPath().getLeaf() instanceof CompilationUnitTree;
            Set<Modifier> flags = tree.getModifiers().getFlags();
            if (!outermost && (!inside || tree.getKind() == Tree.Kind.CLASS && !flags.contains(Modifier.STATIC))) {
                fault(2, "no static class inside the class: " + tree.getSimpleName());
            }
            if (!outermost && (flags.contains(Modifier.PUBLIC) || flags.contains(Modifier.PROTECTED))) {
                fault(1, "a class that can be seen: " + tree.getSimpleName());
            }
            int fields = 0;
            for (Tree member : tree.getMembers()) {
                if (member instanceof VariableTree v && !v.getModifiers().getFlags().contains(Modifier.STATIC)) {
                    fields++;
                }
                if (member instanceof BlockTree) {
                    fault(5, "a block that belongs to no method");
                }
            }
            if (fields > MOST_FIELDS) {
                fault(11, fields + " fields");
            }
            return super.visitClass(tree, none);
        }

        private String here() {
            for (TreePath p = getCurrentPath(); p != null; p = p.getParentPath()) {
                if (p.getLeaf() instanceof MethodTree) {
                    return nameOf(trees.getElement(p));
                }
            }
            return "";
        }

        private static String nameOf(Element method) {
            return method.getEnclosingElement() + "." + method;
        }

        private static boolean isOwn(Element e) {
            for (Element c = e; c != null; c = c.getEnclosingElement()) {
                if (c.getKind() == ElementKind.CLASS && c.getSimpleName().contentEquals("WithoutThem")) {
                    return true;
                }
            }
            return false;
        }

        @Override
        public Void visitMethod(MethodTree tree, Void none) {
            Element method = trees.getElement(getCurrentPath());
            Set<Modifier> flags = method.getModifiers();
            boolean outermost = method.getEnclosingElement().getSimpleName().contentEquals("WithoutThem");
            boolean made = method.getKind() == ElementKind.CONSTRUCTOR;
            calls.putIfAbsent(nameOf(method), new TreeSet<>());
            if (outermost && (flags.contains(Modifier.PUBLIC) ? flags.contains(Modifier.STATIC) : !flags.contains(Modifier.PRIVATE) && !made)) {
                fault(1, "neither of the face nor private: " + method);
            }
            if (outermost && flags.contains(Modifier.PUBLIC) && !made) {
                face.add(tree.getName().toString());
            } else if (!made) {
                hidden.add(new String[] {nameOf(method), tree.getName().toString()});
            }
            if (tree.getParameters().size() > MOST_PARAMETERS) {
                fault(11, tree.getParameters().size() + " parameters of " + method);
            }
            long from = trees.getSourcePositions().getStartPosition(unit, tree);
            long to = trees.getSourcePositions().getEndPosition(unit, tree);
            if (to > from && unit.getLineMap().getLineNumber(to) - unit.getLineMap().getLineNumber(from) >= MOST_LINES) {
                fault(11, method + " is long");
            }
            if (!made) {
                type(((ExecutableElement) method).getReturnType(), method.toString());
            }
            return super.visitMethod(tree, none);
        }

        @Override
        public Void visitVariable(VariableTree tree, Void none) {
            Element variable = trees.getElement(getCurrentPath());
            Set<Modifier> flags = tree.getModifiers().getFlags();
            if (variable != null) {
                type(variable.asType(), tree.toString());
                boolean ofOutermost = variable.getKind() == ElementKind.FIELD
                    && variable.getEnclosingElement().getSimpleName().contentEquals("WithoutThem");
                if (ofOutermost && !flags.contains(Modifier.PRIVATE)) {
                    fault(1, "a field that can be seen: " + tree);
                }
                if (flags.contains(Modifier.STATIC) && ((VariableElement) variable).getConstantValue() == null) {
                    fault(5, "static, and no constant: " + tree);
                }
            }
            return super.visitVariable(tree, none);
        }

        private void type(TypeMirror type, String of) {
            if (type.getKind() == TypeKind.ARRAY) {
                TypeMirror part = ((ArrayType) type).getComponentType();
                boolean two = part.getKind() == TypeKind.ARRAY;
                TypeMirror last = two ? ((ArrayType) part).getComponentType() : part;
                if (two ? !last.getKind().isPrimitive() : !last.getKind().isPrimitive() && !isOwnType(last)) {
                    fault(3, "the type of " + of);
                }
            } else if (!type.getKind().isPrimitive() && type.getKind() != TypeKind.VOID && !isOwnType(type) && !isText(type)) {
                fault(type.toString().equals("java.lang.Thread") ? 13 : 3, "the type of " + of);
            }
        }

        private static boolean isText(TypeMirror type) {
            return type != null && type.toString().equals("java.lang.String");
        }

        private boolean isOwnType(TypeMirror type) {
            return type.getKind() == TypeKind.DECLARED && type.toString().startsWith("WithoutThem");
        }

        @Override
        public Void visitLiteral(LiteralTree tree, Void none) {
            if (tree.getValue() instanceof String s && s.chars().anyMatch(c -> c < 1 || c > 127)) {
                fault(3, "a sign above 127 in a text");
            }
            return super.visitLiteral(tree, none);
        }

        @Override
        public Void visitMethodInvocation(MethodInvocationTree tree, Void none) {
            Element called = trees.getElement(getCurrentPath());
            // The call of the class above, which the compiler puts at the head of a constructor.
            boolean above = called != null && called.getKind() == ElementKind.CONSTRUCTOR;
            if (called != null && isOwn(called)) {
                calls.computeIfAbsent(here(), k -> new TreeSet<>()).add(nameOf(called));
            } else if (called != null && !above && !LIBRARY.contains(called.getEnclosingElement() + "." + called.getSimpleName())) {
                fault(4, "not of the library: " + tree);
            }
            return super.visitMethodInvocation(tree, none);
        }

        @Override
        public Void visitNewClass(NewClassTree tree, Void none) {
            Element made = trees.getElement(getCurrentPath());
            if (made != null && isOwn(made)) {
                calls.computeIfAbsent(here(), k -> new TreeSet<>()).add(nameOf(made));
            } else {
                fault(4, "not of the library: " + tree);
            }
            madeInCall(tree);
            return super.visitNewClass(tree, none);
        }

        @Override
        public Void visitNewArray(NewArrayTree tree, Void none) {
            for (ExpressionTree length : tree.getDimensions()) {
                if (!(constantOf(length) instanceof Integer n) || n < 0) {
                    fault(7, "a length that is no constant: " + tree);
                }
            }
            madeInCall(tree);
            return super.visitNewArray(tree, none);
        }

        private void madeInCall(Tree tree) {
            for (TreePath p = getCurrentPath(); p != null; p = p.getParentPath()) {
                if (p.getLeaf() instanceof MethodTree m && m.getReturnType() != null || p.getLeaf() instanceof ForLoopTree) {
                    fault(12, "made in a call, or in a loop: " + tree);
                }
            }
        }

        @Override
        public Void visitImport(ImportTree tree, Void none) {
            fault(4, tree.toString());
            return super.visitImport(tree, none);
        }

        @Override
        public Void visitAnnotation(AnnotationTree tree, Void none) {
            fault(4, "an annotation");
            return super.visitAnnotation(tree, none);
        }

        @Override
        public Void visitLambdaExpression(LambdaExpressionTree tree, Void none) {
            fault(2, "a lambda");
            return super.visitLambdaExpression(tree, none);
        }

        @Override
        public Void visitMemberReference(MemberReferenceTree tree, Void none) {
            fault(2, "a method reference");
            return super.visitMemberReference(tree, none);
        }

        @Override
        public Void visitThrow(ThrowTree tree, Void none) {
            fault(6, "throw");
            return super.visitThrow(tree, none);
        }

        @Override
        public Void visitTry(TryTree tree, Void none) {
            fault(6, "try");
            return super.visitTry(tree, none);
        }

        @Override
        public Void visitSynchronized(SynchronizedTree tree, Void none) {
            fault(6, "synchronized");
            return super.visitSynchronized(tree, none);
        }

        @Override
        public Void visitAssert(AssertTree tree, Void none) {
            fault(6, "assert");
            return super.visitAssert(tree, none);
        }

        @Override
        public Void visitInstanceOf(InstanceOfTree tree, Void none) {
            fault(6, "instanceof, which the program needs nowhere");
            return super.visitInstanceOf(tree, none);
        }

        private TypeMirror typeOf(Tree tree) {
            return trees.getTypeMirror(new TreePath(getCurrentPath(), tree));
        }

        @Override
        public Void visitTypeCast(TypeCastTree tree, Void none) {
            TypeMirror to = typeOf(tree.getType());
            if (to == null || !to.getKind().isPrimitive()) {
                fault(6, "a cast of an object: " + tree);
            }
            return super.visitTypeCast(tree, none);
        }

        private Object constantOf(ExpressionTree tree) {
            if (tree instanceof ParenthesizedTree p) {
                return constantOf(p.getExpression());
            }
            if (tree instanceof LiteralTree literal) {
                return literal.getValue();
            }
            Element e = trees.getElement(new TreePath(getCurrentPath(), tree));
            return e instanceof VariableElement v ? v.getConstantValue() : null;
        }

        @Override
        public Void visitBinary(BinaryTree tree, Void none) {
            switch (tree.getKind()) {
                case DIVIDE:
                case REMAINDER:
                    divisor(tree.getRightOperand());
                    break;
                case PLUS:
                    if (isText(typeOf(tree.getLeftOperand())) || isText(typeOf(tree.getRightOperand()))) {
                        fault(6, "texts joined by +: " + tree);
                    }
                    break;
                case EQUAL_TO:
                case NOT_EQUAL_TO:
                    if (isText(typeOf(tree.getLeftOperand())) && isText(typeOf(tree.getRightOperand()))) {
                        fault(6, "texts compared: " + tree);
                    }
                    break;
                default:
                    break;
            }
            return super.visitBinary(tree, none);
        }

        @Override
        public Void visitCompoundAssignment(CompoundAssignmentTree tree, Void none) {
            if (tree.getKind() == Tree.Kind.DIVIDE_ASSIGNMENT || tree.getKind() == Tree.Kind.REMAINDER_ASSIGNMENT) {
                divisor(tree.getExpression());
            }
            if (isText(typeOf(tree.getVariable()))) {
                fault(6, "texts joined by +: " + tree);
            }
            return super.visitCompoundAssignment(tree, none);
        }

        /** A constant, or a name that a condition around it tests against 0. */
        private void divisor(ExpressionTree by) {
            Object constant = constantOf(by);
            boolean known = constant instanceof Number n && n.longValue() != 0;
            boolean tested = by instanceof IdentifierTree
                && (isTested(by + " != 0") || isTested(by + " > 0"));
            if (!known && !tested) {
                fault(7, "a divisor without a test: " + by);
            }
        }

        /** Some condition around this place, one of those that hold there, begins or goes on with the words. */
        private boolean isTested(String words) {
            Tree below = getCurrentPath().getLeaf();
            for (TreePath p = getCurrentPath().getParentPath(); p != null; p = p.getParentPath()) {
                Tree leaf = p.getLeaf();
                ExpressionTree condition = null;
                if (leaf instanceof IfTree t && t.getThenStatement() == below) {
                    condition = t.getCondition();
                } else if (leaf instanceof ConditionalExpressionTree t && t.getTrueExpression() == below) {
                    condition = t.getCondition();
                } else if (leaf instanceof ForLoopTree t && t.getStatement() == below) {
                    condition = t.getCondition();
                } else if (leaf instanceof BinaryTree t && t.getKind() == Tree.Kind.CONDITIONAL_AND && t.getRightOperand() == below) {
                    condition = t.getLeftOperand();
                }
                if (condition != null && holds(condition, words)) {
                    return true;
                }
                below = leaf;
            }
            return false;
        }

        private static boolean holds(ExpressionTree condition, String words) {
            if (condition instanceof ParenthesizedTree p) {
                return holds(p.getExpression(), words);
            }
            if (condition instanceof BinaryTree b && b.getKind() == Tree.Kind.CONDITIONAL_AND) {
                return holds(b.getLeftOperand(), words) || holds(b.getRightOperand(), words);
            }
            return condition.toString().equals(words);
        }

        private boolean countsFromNone(String name) {
            for (TreePath p = getCurrentPath(); p != null; p = p.getParentPath()) {
                if (p.getLeaf() instanceof ForLoopTree t && t.getInitializer().toString().equals("int " + name + " = 0")) {
                    return true;
                }
            }
            return false;
        }

        @Override
        public Void visitArrayAccess(ArrayAccessTree tree, Void none) {
            String row = tree.getExpression().toString();
            String at = tree.getIndex().toString();
            boolean below = isTested(at + " < " + row + ".length");
            boolean above = isTested(at + " >= 0") || countsFromNone(at);
            if (!below || !above) {
                fault(7, "an index without a test: " + tree);
            }
            return super.visitArrayAccess(tree, none);
        }

        @Override
        public Void visitForLoop(ForLoopTree tree, Void none) {
            boolean ends = false;
            for (StatementTree start : tree.getInitializer()) {
                if (start instanceof VariableTree v && tree.getCondition() != null && tree.getUpdate().size() == 1) {
                    String name = v.getName().toString();
                    ends |= tree.getUpdate().get(0).getExpression().toString().equals(name + "++")
                        && isBounded(tree.getCondition(), name) && !isSet(tree.getStatement(), name);
                }
            }
            if (!ends) {
                fault(9, "a loop whose end is not seen");
            }
            return super.visitForLoop(tree, none);
        }

        private static boolean isBounded(ExpressionTree condition, String name) {
            if (condition instanceof ParenthesizedTree p) {
                return isBounded(p.getExpression(), name);
            }
            if (!(condition instanceof BinaryTree b)) {
                return false;
            }
            if (b.getKind() == Tree.Kind.CONDITIONAL_AND) {
                return isBounded(b.getLeftOperand(), name) || isBounded(b.getRightOperand(), name);
            }
            boolean less = b.getKind() == Tree.Kind.LESS_THAN || b.getKind() == Tree.Kind.LESS_THAN_EQUAL;
            return less && b.getLeftOperand().toString().equals(name);
        }

        private static boolean isSet(StatementTree body, String name) {
            Set<String> set = new HashSet<>();
            new com.sun.source.util.TreeScanner<Void, Void>() {
                @Override
                public Void visitAssignment(AssignmentTree tree, Void none) {
                    set.add(tree.getVariable().toString());
                    return super.visitAssignment(tree, none);
                }

                @Override
                public Void visitCompoundAssignment(CompoundAssignmentTree tree, Void none) {
                    set.add(tree.getVariable().toString());
                    return super.visitCompoundAssignment(tree, none);
                }

                @Override
                public Void visitUnary(UnaryTree tree, Void none) {
                    String sign = tree.getKind().toString();
                    if (sign.endsWith("INCREMENT") || sign.endsWith("DECREMENT")) {
                        set.add(tree.getExpression().toString());
                    }
                    return super.visitUnary(tree, none);
                }
            }.scan(body, null);
            return set.contains(name);
        }

        @Override
        public Void visitWhileLoop(WhileLoopTree tree, Void none) {
            fault(9, "while, which the program needs nowhere");
            return super.visitWhileLoop(tree, none);
        }

        @Override
        public Void visitDoWhileLoop(DoWhileLoopTree tree, Void none) {
            fault(9, "do, which the program needs nowhere");
            return super.visitDoWhileLoop(tree, none);
        }
    }
}
