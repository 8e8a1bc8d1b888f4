import com.sun.source.tree.*;
import com.sun.source.util.JavacTask;
import com.sun.source.util.TreePath;
import com.sun.source.util.TreePathScanner;
import com.sun.source.util.Trees;
import java.nio.file.Path;
import java.util.ArrayList;
import java.util.HashMap;
import java.util.List;
import java.util.Map;
import java.util.Set;
import java.util.TreeMap;
import java.util.TreeSet;
import javax.lang.model.element.Element;
import javax.lang.model.element.ElementKind;
import javax.lang.model.element.Modifier;
import javax.lang.model.element.TypeElement;
import javax.lang.model.type.ArrayType;
import javax.lang.model.type.TypeKind;
import javax.lang.model.type.TypeMirror;
import javax.tools.JavaCompiler;
import javax.tools.StandardJavaFileManager;
import javax.tools.ToolProvider;

/**
 * Those rules of LANGUAGE.md that can be seen in the class as the compiler reads it, each name with what it stands for.
 * Not looked at: whether an index, a divisor or a reference is tested first (7), how deep recursion goes (8), what is made (12).
 */
public final class LanguageTest {
    private static final Path SOURCE = Path.of("src/main/java/DuelLetters.java");
    private static final int MOST_DEEP = 8, MOST_LINES = 60, MOST_PARAMETERS = 7, MOST_CLASSES = 12, MOST_FIELDS = 20;
    /** Rule 4, as far as the class may come to use it: the calls of String, System, Arrays and of numbers. */
    private static final Set<String> LIBRARY = Set.of("String.length", "String.charAt", "String.isEmpty", "String.equals",
            "String.indexOf", "String.substring", "String.toCharArray", "System.arraycopy", "Arrays.copyOf",
            "Arrays.copyOfRange", "Arrays.fill");
    private static final Set<String> OF_NUMBERS = Set.of("Integer", "Long", "Math");
    private static final Set<Tree.Kind> NEVER = Set.of(Tree.Kind.THROW, Tree.Kind.TRY, Tree.Kind.CATCH, Tree.Kind.SYNCHRONIZED,
            Tree.Kind.ASSERT, Tree.Kind.LAMBDA_EXPRESSION, Tree.Kind.MEMBER_REFERENCE);

    private final Due due = new Due();
    private final Trees trees;
    private final CompilationUnitTree unit;
    /** Who calls whom, by the names of methods with their classes. */
    private final Map<String, Set<String>> calls = new TreeMap<>();
    private int classes = 0;

    private LanguageTest(Trees trees, CompilationUnitTree unit) {
        this.trees = trees;
        this.unit = unit;
    }

    public static void main(String[] args) throws Exception {
        JavaCompiler compiler = ToolProvider.getSystemJavaCompiler();
        try (StandardJavaFileManager files = compiler.getStandardFileManager(null, null, null)) {
            JavacTask task = (JavacTask) compiler.getTask(null, files, null, List.of("-proc:none"), null,
                    files.getJavaFileObjects(SOURCE));
            CompilationUnitTree unit = task.parse().iterator().next();
            task.analyze();
            LanguageTest test = new LanguageTest(Trees.instance(task), unit);
            test.new Rules().scan(unit, null);
            test.ends();
        }
    }

    private void ends() {
        due.isTrue(unit.getPackage() == null, "no package line");
        due.is(1, unit.getTypeDecls().size(), "classes that stand by themselves");
        due.isTrue(classes <= MOST_CLASSES, classes + " classes");
        due.isTrue(calls.size() > 100, "the calls of " + calls.size() + " methods were seen");
        new Depths().run();
        due.end();
    }

    private static String nameOf(Element e) {
        return e.getEnclosingElement().getSimpleName() + "." + e.getSimpleName();
    }

    private final class Rules extends TreePathScanner<Void, Void> {
        private String method = "";

        private void rule(int number, boolean holds, String what) {
            long line = unit.getLineMap().getLineNumber(trees.getSourcePositions().getStartPosition(unit, getCurrentPath().getLeaf()));
            due.isTrue(holds, "line " + line + ", rule " + number + ": " + what);
        }

        private TypeMirror typeOf(Tree tree) {
            return trees.getTypeMirror(new TreePath(getCurrentPath(), tree));
        }

        private boolean isText(Tree tree) {
            return String.valueOf(typeOf(tree)).equals("java.lang.String");
        }

        private boolean isOwn(Element e) {
            for (Element at = e; at != null; at = at.getEnclosingElement()) {
                if (at instanceof TypeElement t && t.getQualifiedName().contentEquals("DuelLetters")) return true;
            }
            return false;
        }

        private boolean isOwn(TypeMirror type) {
            return type.toString().equals("DuelLetters") || type.toString().startsWith("DuelLetters.");
        }

        @Override
        public Void scan(Tree tree, Void nothing) {
            if (tree != null) due.isTrue(!NEVER.contains(tree.getKind()), "rules 2 and 6: " + tree.getKind() + " " + tree);
            return super.scan(tree, nothing);
        }

        @Override
        public Void visitClass(ClassTree tree, Void nothing) {
            classes++;
            Element e = trees.getElement(getCurrentPath());
            boolean outer = e.getEnclosingElement().getKind() == ElementKind.PACKAGE;
            rule(2, outer || e.getModifiers().contains(Modifier.STATIC), tree.getSimpleName() + " is static");
            long fields = tree.getMembers().stream().filter(m -> m instanceof VariableTree v
                    && !v.getModifiers().getFlags().contains(Modifier.STATIC)).count();
            rule(11, fields <= MOST_FIELDS, tree.getSimpleName() + " has " + fields + " fields");
            return super.visitClass(tree, nothing);
        }

        @Override
        public Void visitBlock(BlockTree tree, Void nothing) {
            boolean ofClass = getCurrentPath().getParentPath().getLeaf() instanceof ClassTree;
            rule(5, !(ofClass && tree.isStatic()), "no static initialiser block");
            return super.visitBlock(tree, nothing);
        }

        @Override
        public Void visitMethod(MethodTree tree, Void nothing) {
            String outside = method;
            method = nameOf(trees.getElement(getCurrentPath()));
            calls.putIfAbsent(method, new TreeSet<>());
            rule(11, tree.getParameters().size() <= MOST_PARAMETERS, "parameters of " + method);
            long from = trees.getSourcePositions().getStartPosition(unit, tree);
            long to = trees.getSourcePositions().getEndPosition(unit, tree);
            if (to > from) {
                long lines = unit.getLineMap().getLineNumber(to) - unit.getLineMap().getLineNumber(from) + 1;
                rule(11, lines <= MOST_LINES, method + " has " + lines + " lines");
            }
            super.visitMethod(tree, nothing);
            method = outside;
            return null;
        }

        @Override
        public Void visitMethodInvocation(MethodInvocationTree tree, Void nothing) {
            Element called = trees.getElement(new TreePath(getCurrentPath(), tree.getMethodSelect()));
            if (isOwn(called)) {
                if (!called.getSimpleName().contentEquals("<init>")) calls.computeIfAbsent(method, m -> new TreeSet<>()).add(nameOf(called));
            } else if (called.getSimpleName().contentEquals("clone")) {
                rule(4, typeOf(((MemberSelectTree) tree.getMethodSelect()).getExpression()).getKind() == TypeKind.ARRAY, "clone of an array");
            } else if (!called.getSimpleName().contentEquals("<init>")) {
                String name = nameOf(called);
                boolean ofNumbers = OF_NUMBERS.contains(called.getEnclosingElement().getSimpleName().toString())
                        && called.getModifiers().contains(Modifier.STATIC) && !name.endsWith("Exact");
                rule(4, LIBRARY.contains(name) || ofNumbers, name + " is not of the library");
                if (name.equals("String.indexOf")) {
                    rule(4, tree.getArguments().size() == 1 && typeOf(tree.getArguments().get(0)).getKind() == TypeKind.CHAR, "indexOf(char)");
                }
                if (ofNumbers) {
                    for (Tree a : tree.getArguments()) {
                        rule(4, Set.of(TypeKind.INT, TypeKind.LONG).contains(typeOf(a).getKind()), name + " over int and long");
                    }
                }
            }
            return super.visitMethodInvocation(tree, nothing);
        }

        @Override
        public Void visitMemberSelect(MemberSelectTree tree, Void nothing) {
            Element e = trees.getElement(getCurrentPath());
            if (e != null && e.getKind() == ElementKind.FIELD && !isOwn(e)) {
                rule(4, typeOf(tree.getExpression()).getKind() == TypeKind.ARRAY, tree + " is not of the library");
            }
            return super.visitMemberSelect(tree, nothing);
        }

        @Override
        public Void visitImport(ImportTree tree, Void nothing) {
            rule(4, Set.of("java.util.Arrays", "java.util.ArrayList", "java.util.List", "java.util.Iterator")
                    .contains(tree.getQualifiedIdentifier().toString()), "import of " + tree.getQualifiedIdentifier());
            return super.visitImport(tree, nothing);
        }

        @Override
        public Void visitNewClass(NewClassTree tree, Void nothing) {
            rule(2, tree.getClassBody() == null, "no class without a name");
            rule(4, isOwn(typeOf(tree.getIdentifier())) || isText(tree.getIdentifier()), "new " + tree.getIdentifier());
            return super.visitNewClass(tree, nothing);
        }

        @Override
        public Void visitVariable(VariableTree tree, Void nothing) {
            Element e = trees.getElement(getCurrentPath());
            TypeMirror type = e.asType();
            rule(3, mayBe(type), "a " + type);
            if (e.getKind() == ElementKind.FIELD && e.getModifiers().contains(Modifier.STATIC)) {
                rule(5, e.getModifiers().contains(Modifier.FINAL), tree.getName() + " is final");
                rule(5, Set.of("int", "long", "boolean", "char", "java.lang.String", "int[]", "long[]", "char[]", "byte[]")
                        .contains(type.toString()), tree.getName() + " is a " + type);
                rule(5, type.getKind() != TypeKind.ARRAY || tree.getInitializer() instanceof NewArrayTree n
                        && n.getInitializers() != null, tree.getName() + " is written out");
            }
            return super.visitVariable(tree, nothing);
        }

        private boolean mayBe(TypeMirror type) {
            if (type instanceof ArrayType a) {
                TypeMirror part = a.getComponentType();
                if (part instanceof ArrayType inner) return inner.getComponentType().getKind().isPrimitive();
                return part.getKind().isPrimitive() || isOwn(part);
            }
            return type.getKind().isPrimitive() || isOwn(type) || type.toString().equals("java.lang.String");
        }

        @Override
        public Void visitAssignment(AssignmentTree tree, Void nothing) {
            neverChanged(tree.getVariable());
            return super.visitAssignment(tree, nothing);
        }

        @Override
        public Void visitUnary(UnaryTree tree, Void nothing) {
            if (tree.getKind().toString().contains("CREMENT")) neverChanged(tree.getExpression());
            return super.visitUnary(tree, nothing);
        }

        @Override
        public Void visitCompoundAssignment(CompoundAssignmentTree tree, Void nothing) {
            neverChanged(tree.getVariable());
            rule(10, !isText(tree.getVariable()), "texts are not joined by +=");
            return super.visitCompoundAssignment(tree, nothing);
        }

        private void neverChanged(ExpressionTree target) {
            if (target instanceof ArrayAccessTree a) {
                TreePath path = new TreePath(new TreePath(getCurrentPath(), a), a.getExpression());
                Element e = trees.getElement(path);
                rule(5, e == null || e.getKind() != ElementKind.FIELD || !e.getModifiers().contains(Modifier.STATIC), a + " is never changed");
            }
        }

        @Override
        public Void visitBinary(BinaryTree tree, Void nothing) {
            boolean texts = isText(tree.getLeftOperand()) || isText(tree.getRightOperand());
            rule(10, !(texts && tree.getKind() == Tree.Kind.PLUS), "texts are not joined by +");
            boolean isNull = tree.getRightOperand().getKind() == Tree.Kind.NULL_LITERAL;
            rule(6, !texts || isNull, "no == between texts");
            return super.visitBinary(tree, nothing);
        }

        @Override
        public Void visitTypeCast(TypeCastTree tree, Void nothing) {
            rule(6, typeOf(tree.getType()).getKind().isPrimitive(), "a cast to " + tree.getType());
            return super.visitTypeCast(tree, nothing);
        }

        @Override
        public Void visitForLoop(ForLoopTree tree, Void nothing) {
            rule(9, tree.getCondition() != null && !tree.getUpdate().isEmpty(), "a loop's end can be seen");
            return super.visitForLoop(tree, nothing);
        }

        @Override
        public Void visitWhileLoop(WhileLoopTree tree, Void nothing) {
            rule(9, tree.getCondition().toString().contains("<"), "a loop's end can be seen");
            return super.visitWhileLoop(tree, nothing);
        }

        @Override
        public Void visitLiteral(LiteralTree tree, Void nothing) {
            if (tree.getValue() instanceof String text) {
                rule(4, text.chars().allMatch(c -> c >= 1 && c <= 127), "signs of 1 to 127");
            }
            return super.visitLiteral(tree, nothing);
        }
    }

    /** Rule 11: calls go at most eight deep, where methods that call one another in a ring count as one. */
    private final class Depths {
        private final Map<String, Integer> depth = new HashMap<>();

        void run() {
            for (String m : calls.keySet()) {
                due.isTrue(deep(m) <= MOST_DEEP, "rule 11: calls from " + m + " go " + deep(m) + " deep");
            }
        }

        private boolean reaches(String from, String to) {
            Set<String> seen = new TreeSet<>();
            List<String> open = new ArrayList<>(calls.getOrDefault(from, Set.of()));
            while (!open.isEmpty()) {
                String m = open.remove(open.size() - 1);
                if (m.equals(to)) return true;
                if (seen.add(m)) open.addAll(calls.getOrDefault(m, Set.of()));
            }
            return false;
        }

        private Set<String> ringOf(String m) {
            Set<String> ring = new TreeSet<>(Set.of(m));
            for (String other : calls.keySet()) if (reaches(m, other) && reaches(other, m)) ring.add(other);
            return ring;
        }

        private int deep(String m) {
            if (depth.containsKey(m)) return depth.get(m);
            Set<String> ring = ringOf(m);
            int most = 0;
            for (String part : ring) {
                for (String called : calls.getOrDefault(part, Set.of())) {
                    if (!ring.contains(called)) most = Math.max(most, deep(called));
                }
            }
            for (String part : ring) depth.put(part, most + 1);
            return most + 1;
        }
    }
}
