import com.sun.source.tree.ArrayAccessTree;
import com.sun.source.tree.AssertTree;
import com.sun.source.tree.AssignmentTree;
import com.sun.source.tree.BinaryTree;
import com.sun.source.tree.ClassTree;
import com.sun.source.tree.CompilationUnitTree;
import com.sun.source.tree.CompoundAssignmentTree;
import com.sun.source.tree.DoWhileLoopTree;
import com.sun.source.tree.ExpressionTree;
import com.sun.source.tree.ForLoopTree;
import com.sun.source.tree.IdentifierTree;
import com.sun.source.tree.LambdaExpressionTree;
import com.sun.source.tree.LiteralTree;
import com.sun.source.tree.MemberReferenceTree;
import com.sun.source.tree.MethodInvocationTree;
import com.sun.source.tree.MethodTree;
import com.sun.source.tree.NewArrayTree;
import com.sun.source.tree.NewClassTree;
import com.sun.source.tree.SynchronizedTree;
import com.sun.source.tree.ThrowTree;
import com.sun.source.tree.Tree;
import com.sun.source.tree.TryTree;
import com.sun.source.tree.UnaryTree;
import com.sun.source.tree.VariableTree;
import com.sun.source.tree.WhileLoopTree;
import com.sun.source.util.JavacTask;
import com.sun.source.util.TreePath;
import com.sun.source.util.TreePathScanner;
import com.sun.source.util.TreeScanner;
import com.sun.source.util.Trees;
import java.net.URI;
import java.nio.charset.StandardCharsets;
import java.nio.file.Files;
import java.nio.file.Path;
import java.util.HashMap;
import java.util.HashSet;
import java.util.List;
import java.util.Map;
import java.util.Set;
import java.util.TreeSet;
import javax.lang.model.element.Element;
import javax.lang.model.element.ElementKind;
import javax.lang.model.element.Modifier;
import javax.lang.model.element.TypeElement;
import javax.lang.model.element.VariableElement;
import javax.lang.model.type.TypeMirror;
import javax.tools.JavaCompiler;
import javax.tools.JavaFileObject;
import javax.tools.SimpleJavaFileObject;
import javax.tools.ToolProvider;

/**
 * The rules of LANGUAGE.md that the compiler's tree of the program tells. Each check is first tried on a
 * program that breaks its rule: one that finds nothing there would be no check.
 */
public final class CodeTest {
    private static final Set<String> LIBRARY = Set.of(
            "String.length", "String.charAt", "String.isEmpty", "String.equals", "String.indexOf", "String.substring",
            "String.toCharArray", "StringBuilder.append", "StringBuilder.charAt", "StringBuilder.setCharAt",
            "StringBuilder.setLength", "StringBuilder.deleteCharAt", "StringBuilder.reverse", "StringBuilder.length",
            "StringBuilder.toString", "System.arraycopy", "Arrays.copyOf", "Arrays.copyOfRange", "Arrays.fill");
    private static final Set<String> FUNCTIONS_OF = Set.of("Integer", "Long", "Math");
    private static final String NUMBERS = "int|long|short|byte|char|boolean|double|float";
    private static final int MOST_LINES = 60;
    private static final int MOST_PARAMETERS = 7;
    private static final int MOST_CLASSES = 12;
    private static final int MOST_FIELDS = 20;
    private static final int DEEPEST_CALL = 8;

    /** A rule, and the body of a class that breaks it. */
    private static final String[][] BROKEN = {
        {"rule 2", "private int a() { Runnable r = () -> { }; return 0; }"},
        {"rule 2", "private int a() { class B { } return 0; }"},
        {"rule 2", "private class B { }"},
        {"rule 2", "private final Comparable<Integer> c = new Comparable<>() { public int compareTo(Integer i) { return 0; } };"},
        {"rule 2", "private int a() { java.util.function.IntUnaryOperator f = Math::abs; return 0; }"},
        {"rule 3", "private final java.util.HashMap<String, String> m = null;"},
        {"rule 3", "private final String[] m = new String[2];"},
        {"rule 3", "private final int[][][] m = null;"},
        {"rule 4", "private int a(String s) { return s.hashCode(); }"},
        {"rule 4", "private int a(int s) { return Math.addExact(s, 1); }"},
        {"rule 4", "private int a(String s) { return s.trim().length(); }"},
        {"rule 4", "private long a() { return System.nanoTime(); }"},
        {"rule 4", "private int a() { return new java.util.Random().nextInt(); }"},
        {"rule 5", "private static int a;"},
        {"rule 5", "private static final int[] A = new int[3];"},
        {"rule 5", "private static final int[] A = {1}; private int a() { A[0] = 2; return 1; }"},
        {"rule 5", "private static final int[] A = {1}; private int a() { A[0]++; return 1; }"},
        {"rule 5", "static { int a = 1; }"},
        {"rule 6", "private int a() { throw new IllegalArgumentException(); }"},
        {"rule 6", "private int a() { try { return 1; } finally { int b = 1; } }"},
        {"rule 6", "private int a(int b) { assert b > 1; return 1; }"},
        {"rule 6", "private synchronized int a(int b) { return 1; }"},
        {"rule 6", "private int a(int b) { synchronized (this) { return 1; } }"},
        {"rule 6", "private boolean a(String b, String c) { return b == c; }"},
        {"rule 7", "private int a(int b, int c) { return b / c; }"},
        {"rule 7", "private int a(int b, int c) { b %= c; return b; }"},
        {"rule 8", "private int a(int b) { return b < 0 ? 0 : a(b - 1); }"},
        {"rule 8", "private int a(int b) { return c(b); } private int c(int b) { return b < 0 ? 0 : a(b - 1); }"},
        {"rule 9", "private int a(int b) { while (b < 3) { int c = 2; } return b; }"},
        {"rule 9", "private int a(int b) { for (int i = 0; b < 3; i++) { int c = 2; } return b; }"},
        {"rule 9", "private int a(int b) { for (;;) { b++; } }"},
        {"rule 9", "private int a(int b) { do { int c = 2; } while (b < 3); return b; }"},
        {"rule 10", "private int a(String b) { return (b + 1).length(); }"},
        {"rule 11", "private int a(int b, int c, int d, int e, int f, int g, int h, int i) { return 1; }"},
        {"rule 11", "private int a() { return 1" + "\n+ 1".repeat(80) + "; }"},
        {"rule 11", fields(21)},
        {"rule 11", classes(12)},
        {"rule 11", chain(8)},
        {"rule 12", "private int a(int n) { for (int i = 0; i < n; i++) { int[] b = new int[9]; } return 1; }"},
    };

    public static void main(String[] args) throws Exception {
        for (String[] broken : BROKEN) {
            Set<String> found = look("public final class DeltaRuns {\n" + broken[1] + "\n}\n");
            boolean has = found.stream().anyMatch(what -> what.startsWith(broken[0] + ":"));
            Due.sentence("a check finds what breaks " + broken[0]);
            Due.due(broken[1].substring(0, Math.min(70, broken[1].length())) + " " + found, has ? 1 : 0, 1);
        }
        Due.sentence("LANGUAGE.md");
        for (String what : look(Files.readString(Path.of("src/main/java/DeltaRuns.java"), StandardCharsets.UTF_8))) {
            Due.due(what, 1, 0);
        }
        Due.end();
    }

    private static String fields(int n) {
        StringBuilder text = new StringBuilder();
        for (int i = 0; i < n; i++) {
            text.append(" private int a").append(i).append(';');
        }
        return text.toString();
    }

    private static String classes(int n) {
        StringBuilder text = new StringBuilder();
        for (int i = 0; i < n; i++) {
            text.append(" private static final class C").append(i).append(" { }");
        }
        return text.toString();
    }

    private static String chain(int n) {
        StringBuilder text = new StringBuilder("private int a" + n + "() { return 1; }");
        for (int i = 0; i < n; i++) {
            text.append(" private int a").append(i).append("() { return a").append(i + 1).append("(); }");
        }
        return text.toString();
    }

    /** What a program breaks, each with its rule ahead. */
    private static Set<String> look(String program) throws Exception {
        JavaFileObject file = new SimpleJavaFileObject(URI.create("string:///DeltaRuns.java"), JavaFileObject.Kind.SOURCE) {
            @Override
            public CharSequence getCharContent(boolean ignore) {
                return program;
            }
        };
        JavaCompiler compiler = ToolProvider.getSystemJavaCompiler();
        JavacTask task = (JavacTask) compiler.getTask(null, null, null, List.of("--release", "17", "-proc:none"),
                null, List.of(file));
        CompilationUnitTree unit = task.parse().iterator().next();
        task.analyze();
        Looker looker = new Looker(Trees.instance(task), unit);
        looker.scan(unit, null);
        looker.lookAtCalls();
        return looker.found;
    }

    private static final class Looker extends TreePathScanner<Void, Void> {
        final Set<String> found = new TreeSet<>();
        private final Trees trees;
        private final CompilationUnitTree unit;
        private final Map<Element, Set<Element>> calls = new HashMap<>();
        private final Set<String> ownClasses = new HashSet<>();
        private int classes = 0;

        Looker(Trees trees, CompilationUnitTree unit) {
            this.trees = trees;
            this.unit = unit;
            new TreeScanner<Void, Void>() {
                @Override
                public Void visitClass(ClassTree node, Void none) {
                    ownClasses.add(node.getSimpleName().toString());
                    return super.visitClass(node, none);
                }
            }.scan(unit, null);
        }

        private void must(boolean holds, String rule, Tree where) {
            if (!holds) {
                long at = trees.getSourcePositions().getStartPosition(unit, where);
                found.add(rule + ": line " + unit.getLineMap().getLineNumber(at));
            }
        }

        private long lines(Tree tree) {
            long start = trees.getSourcePositions().getStartPosition(unit, tree);
            long end = trees.getSourcePositions().getEndPosition(unit, tree);
            return unit.getLineMap().getLineNumber(end) - unit.getLineMap().getLineNumber(start) + 1;
        }

        private Element elementOf(Tree tree) {
            return trees.getElement(new TreePath(getCurrentPath(), tree));
        }

        private String typeOf(Tree tree) {
            TypeMirror type = trees.getTypeMirror(new TreePath(getCurrentPath(), tree));
            return type == null ? "" : type.toString();
        }

        private <T extends Tree> T within(Class<T> kind) {
            for (TreePath path = getCurrentPath().getParentPath(); path != null; path = path.getParentPath()) {
                if (kind.isInstance(path.getLeaf())) {
                    return kind.cast(path.getLeaf());
                }
            }
            return null;
        }

        @Override
        public Void visitClass(ClassTree node, Void none) {
            classes++;
            must(classes <= MOST_CLASSES, "rule 11", node);
            boolean nested = getCurrentPath().getParentPath().getLeaf() instanceof ClassTree;
            boolean top = getCurrentPath().getParentPath().getLeaf() instanceof CompilationUnitTree;
            boolean fixed = node.getKind() != Tree.Kind.CLASS || node.getModifiers().getFlags().contains(Modifier.STATIC);
            must(top || nested && fixed, "rule 2", node);
            int fields = 0;
            for (Tree member : node.getMembers()) {
                must(member.getKind() != Tree.Kind.BLOCK, "rule 5", member);
                if (member instanceof VariableTree field) {
                    if (field.getModifiers().getFlags().contains(Modifier.STATIC)) {
                        lookAtStatic(field);
                    } else {
                        fields++;
                    }
                }
            }
            must(fields <= MOST_FIELDS, "rule 11", node);
            return super.visitClass(node, none);
        }

        private void lookAtStatic(VariableTree field) {
            must(field.getModifiers().getFlags().contains(Modifier.FINAL), "rule 5", field);
            String type = field.getType().toString();
            must(type.matches("(int|long|boolean|char|String)|(int|long|char|byte)\\[\\]"), "rule 5", field);
            boolean written = field.getInitializer() instanceof NewArrayTree row && row.getInitializers() != null;
            must(!type.endsWith("[]") || written, "rule 5", field);
        }

        @Override
        public Void visitVariable(VariableTree node, Void none) {
            if (node.getType() != null) {
                lookAtType(typeOf(node.getType()), node);
            }
            return super.visitVariable(node, none);
        }

        private void lookAtType(String type, Tree where) {
            String plain = type.replaceFirst("^DeltaRuns\\.", "");
            boolean own = ownClasses.contains(plain.replaceFirst("\\[\\]$", ""));
            boolean text = plain.equals("java.lang.String") || plain.equals("java.lang.StringBuilder");
            must(own || text || plain.matches("(" + NUMBERS + ")(\\[\\]){0,2}"), "rule 3", where);
        }

        @Override
        public Void visitMethod(MethodTree node, Void none) {
            must(node.getParameters().size() <= MOST_PARAMETERS, "rule 11", node);
            must(lines(node) <= MOST_LINES, "rule 11", node);
            must(!node.getModifiers().getFlags().contains(Modifier.SYNCHRONIZED), "rule 6", node);
            if (node.getReturnType() != null && !node.getReturnType().toString().equals("void")) {
                lookAtType(typeOf(node.getReturnType()), node);
            }
            calls.putIfAbsent(trees.getElement(getCurrentPath()), new HashSet<>());
            return super.visitMethod(node, none);
        }

        @Override
        public Void visitMethodInvocation(MethodInvocationTree node, Void none) {
            Element called = elementOf(node.getMethodSelect());
            if (called != null) {
                lookAtCall(called, node);
            }
            return super.visitMethodInvocation(node, none);
        }

        private void lookAtCall(Element called, Tree node) {
            TypeElement owner = (TypeElement) called.getEnclosingElement();
            String name = owner.getSimpleName() + "." + called.getSimpleName();
            boolean own = ownClasses.contains(owner.getSimpleName().toString());
            boolean function = FUNCTIONS_OF.contains(owner.getSimpleName().toString())
                    && called.getModifiers().contains(Modifier.STATIC) && !name.endsWith("Exact");
            boolean made = called.getKind() == ElementKind.CONSTRUCTOR;
            must(own || made || function || LIBRARY.contains(name), "rule 4", node);
            MethodTree from = within(MethodTree.class);
            if (own && from != null) {
                Element caller = trees.getElement(trees.getPath(unit, from));
                calls.computeIfAbsent(caller, c -> new HashSet<>()).add(called);
            }
        }

        @Override
        public Void visitNewClass(NewClassTree node, Void none) {
            must(node.getClassBody() == null, "rule 2", node);
            String type = node.getIdentifier().toString();
            must(ownClasses.contains(type) || type.equals("StringBuilder") || type.equals("String"), "rule 4", node);
            must(!inALoop(), "rule 12", node);
            Element made = trees.getElement(getCurrentPath());
            if (made != null) {
                lookAtCall(made, node);
            }
            return super.visitNewClass(node, none);
        }

        @Override
        public Void visitNewArray(NewArrayTree node, Void none) {
            must(!inALoop(), "rule 12", node);
            return super.visitNewArray(node, none);
        }

        private boolean inALoop() {
            return within(ForLoopTree.class) != null || within(WhileLoopTree.class) != null
                    || within(DoWhileLoopTree.class) != null;
        }

        @Override
        public Void visitBinary(BinaryTree node, Void none) {
            if (node.getKind() == Tree.Kind.DIVIDE || node.getKind() == Tree.Kind.REMAINDER) {
                lookAtDivisor(node.getRightOperand(), node);
            }
            boolean texts = typeOf(node.getLeftOperand()).endsWith("String")
                    || typeOf(node.getRightOperand()).endsWith("String");
            must(!texts || node.getKind() != Tree.Kind.PLUS, "rule 10", node);
            must(!texts || node.getKind() != Tree.Kind.EQUAL_TO && node.getKind() != Tree.Kind.NOT_EQUAL_TO, "rule 6", node);
            return super.visitBinary(node, none);
        }

        /** A divisor is a number, a constant, or a name that its method sets beside 0. */
        private void lookAtDivisor(ExpressionTree divisor, Tree where) {
            Element element = elementOf(divisor);
            boolean number = divisor instanceof LiteralTree literal && !"0".equals(literal.toString());
            boolean constant = element instanceof VariableElement variable
                    && variable.getConstantValue() != null;
            MethodTree method = within(MethodTree.class);
            boolean tested = method != null && divisor instanceof IdentifierTree
                    && method.toString().matches("(?s).*\\b" + divisor + " (>|<=) 0\\b.*");
            must(number || constant || tested, "rule 7", where);
        }

        @Override
        public Void visitCompoundAssignment(CompoundAssignmentTree node, Void none) {
            if (node.getKind() == Tree.Kind.DIVIDE_ASSIGNMENT || node.getKind() == Tree.Kind.REMAINDER_ASSIGNMENT) {
                lookAtDivisor(node.getExpression(), node);
            }
            lookAtChanged(node.getVariable());
            return super.visitCompoundAssignment(node, none);
        }

        @Override
        public Void visitAssignment(AssignmentTree node, Void none) {
            lookAtChanged(node.getVariable());
            return super.visitAssignment(node, none);
        }

        @Override
        public Void visitUnary(UnaryTree node, Void none) {
            if (changes(node)) {
                lookAtChanged(node.getExpression());
            }
            return super.visitUnary(node, none);
        }

        private void lookAtChanged(ExpressionTree variable) {
            if (variable instanceof ArrayAccessTree access) {
                Element row = trees.getElement(new TreePath(new TreePath(getCurrentPath(), access), access.getExpression()));
                must(row == null || !row.getModifiers().contains(Modifier.STATIC), "rule 5", variable);
            }
        }

        @Override
        public Void visitForLoop(ForLoopTree node, Void none) {
            lookAtLoop(node.getCondition(), node);
            return super.visitForLoop(node, none);
        }

        @Override
        public Void visitWhileLoop(WhileLoopTree node, Void none) {
            lookAtLoop(node.getCondition(), node);
            return super.visitWhileLoop(node, none);
        }

        @Override
        public Void visitDoWhileLoop(DoWhileLoopTree node, Void none) {
            lookAtLoop(node.getCondition(), node);
            return super.visitDoWhileLoop(node, none);
        }

        /** Some counter that the loop's end looks at is stepped on by the loop's own lines. */
        private void lookAtLoop(ExpressionTree condition, Tree loop) {
            Set<String> looked = new HashSet<>();
            Set<String> stepped = new HashSet<>();
            if (condition != null) {
                new TreeScanner<Void, Void>() {
                    @Override
                    public Void visitBinary(BinaryTree node, Void none) {
                        Tree.Kind kind = node.getKind();
                        if (kind == Tree.Kind.LESS_THAN || kind == Tree.Kind.LESS_THAN_EQUAL
                                || kind == Tree.Kind.GREATER_THAN || kind == Tree.Kind.GREATER_THAN_EQUAL) {
                            looked.add(node.getLeftOperand().toString());
                        }
                        return super.visitBinary(node, none);
                    }
                }.scan(condition, null);
            }
            new TreeScanner<Void, Void>() {
                @Override
                public Void visitUnary(UnaryTree node, Void none) {
                    if (changes(node)) {
                        stepped.add(node.getExpression().toString());
                    }
                    return super.visitUnary(node, none);
                }

                @Override
                public Void visitCompoundAssignment(CompoundAssignmentTree node, Void none) {
                    stepped.add(node.getVariable().toString());
                    return super.visitCompoundAssignment(node, none);
                }
            }.scan(loop, null);
            looked.retainAll(stepped);
            must(!looked.isEmpty(), "rule 9", loop);
        }

        private static boolean changes(UnaryTree node) {
            return switch (node.getKind()) {
                case PREFIX_INCREMENT, PREFIX_DECREMENT, POSTFIX_INCREMENT, POSTFIX_DECREMENT -> true;
                default -> false;
            };
        }

        @Override
        public Void visitLambdaExpression(LambdaExpressionTree node, Void none) {
            must(false, "rule 2", node);
            return super.visitLambdaExpression(node, none);
        }

        @Override
        public Void visitMemberReference(MemberReferenceTree node, Void none) {
            must(false, "rule 2", node);
            return super.visitMemberReference(node, none);
        }

        @Override
        public Void visitThrow(ThrowTree node, Void none) {
            must(false, "rule 6", node);
            return super.visitThrow(node, none);
        }

        @Override
        public Void visitTry(TryTree node, Void none) {
            must(false, "rule 6", node);
            return super.visitTry(node, none);
        }

        @Override
        public Void visitAssert(AssertTree node, Void none) {
            must(false, "rule 6", node);
            return super.visitAssert(node, none);
        }

        @Override
        public Void visitSynchronized(SynchronizedTree node, Void none) {
            must(false, "rule 6", node);
            return super.visitSynchronized(node, none);
        }

        void lookAtCalls() {
            Map<Element, Integer> depths = new HashMap<>();
            for (Element method : calls.keySet()) {
                int depth = depthOf(method, new HashSet<>(), depths);
                if (depth > DEEPEST_CALL) {
                    found.add("rule 11: calls go " + depth + " deep from " + method);
                }
            }
        }

        private int depthOf(Element method, Set<Element> open, Map<Element, Integer> depths) {
            if (depths.containsKey(method)) {
                return depths.get(method);
            }
            if (!open.add(method)) {
                found.add("rule 8: " + method + " calls itself");
                return 0;
            }
            int deepest = 0;
            for (Element next : calls.getOrDefault(method, Set.of())) {
                deepest = Math.max(deepest, depthOf(next, open, depths));
            }
            open.remove(method);
            depths.put(method, deepest + 1);
            return deepest + 1;
        }
    }
}
