import com.sun.source.tree.AssignmentTree;
import com.sun.source.tree.BinaryTree;
import com.sun.source.tree.ClassTree;
import com.sun.source.tree.CompilationUnitTree;
import com.sun.source.tree.CompoundAssignmentTree;
import com.sun.source.tree.ExpressionTree;
import com.sun.source.tree.ForLoopTree;
import com.sun.source.tree.MethodInvocationTree;
import com.sun.source.tree.MethodTree;
import com.sun.source.tree.NewArrayTree;
import com.sun.source.tree.NewClassTree;
import com.sun.source.tree.ParenthesizedTree;
import com.sun.source.tree.ThrowTree;
import com.sun.source.tree.Tree;
import com.sun.source.tree.TypeCastTree;
import com.sun.source.tree.UnaryTree;
import com.sun.source.tree.VariableTree;
import com.sun.source.tree.WhileLoopTree;
import com.sun.source.util.JavacTask;
import com.sun.source.util.TreePath;
import com.sun.source.util.TreePathScanner;
import com.sun.source.util.TreeScanner;
import com.sun.source.util.Trees;
import java.io.IOException;
import java.nio.file.Files;
import java.nio.file.Path;
import java.util.ArrayList;
import java.util.Arrays;
import java.util.HashMap;
import java.util.HashSet;
import java.util.LinkedHashSet;
import java.util.List;
import java.util.Map;
import java.util.Set;
import javax.lang.model.element.Element;
import javax.lang.model.element.Modifier;
import javax.lang.model.element.VariableElement;
import javax.tools.JavaCompiler;
import javax.tools.StandardJavaFileManager;
import javax.tools.ToolProvider;

/**
 * The rules of LANGUAGE.md, as far as they can be read off the source. It allows what the class uses now,
 * which is less than the rules do: a landing that needs more widens the lists here.
 */
public final class LanguageTest {
    private static final Path SOURCE = Path.of("src", "main", "java", "PairDecoder.java");
    private static final Set<String> LIBRARY = setOf(
            "Integer.bitCount", "Long.bitCount", "Math.min", "Math.max", "Object.<init>", "ArithmeticException.<init>");
    private static final Set<String> TYPES = setOf("int", "long", "boolean", "int[]", "long[]",
            "PairDecoder", "Graph", "Ways", "Pairing", "Matcher", "void");
    private static final Set<String> UNWANTED = setOf("LAMBDA_EXPRESSION", "MEMBER_REFERENCE", "SYNCHRONIZED", "ASSERT",
            "TRY", "CATCH", "INSTANCE_OF", "INTERFACE", "ENUM", "RECORD", "ANNOTATION_TYPE", "SWITCH_EXPRESSION",
            "DO_WHILE_LOOP", "ENHANCED_FOR_LOOP", "DOUBLE_LITERAL", "FLOAT_LITERAL", "NULL_LITERAL", "IMPORT",
            "PACKAGE", "ANNOTATION", "DIVIDE_ASSIGNMENT", "REMAINDER", "REMAINDER_ASSIGNMENT");
    private static int wrong = 0;

    private static Set<String> setOf(String... names) {
        return new HashSet<>(Arrays.asList(names));
    }

    /** The names that are counted up, and those that are set in another way. */
    private static final class Changes extends TreeScanner<Void, Void> {
        final Set<String> countedUp = new HashSet<>();
        final Set<String> set = new HashSet<>();

        @Override
        public Void visitUnary(UnaryTree tree, Void none) {
            if (tree.getKind() == Tree.Kind.POSTFIX_INCREMENT) {
                countedUp.add(tree.getExpression().toString());
            } else if (tree.getKind().name().endsWith("CREMENT")) {
                set.add(tree.getExpression().toString());
            }
            return super.visitUnary(tree, none);
        }

        @Override
        public Void visitAssignment(AssignmentTree tree, Void none) {
            set.add(tree.getVariable().toString());
            return super.visitAssignment(tree, none);
        }

        @Override
        public Void visitCompoundAssignment(CompoundAssignmentTree tree, Void none) {
            set.add(tree.getVariable().toString());
            return super.visitCompoundAssignment(tree, none);
        }
    }

    private static final class Reader extends TreePathScanner<Void, Void> {
        final Trees trees;
        final CompilationUnitTree unit;
        /** Which methods and constructors of the file each of them calls. */
        final Map<Element, Set<Element>> calls = new HashMap<>();
        int classes = 0;
        Element method = null;
        boolean inThrow = false;

        Reader(Trees trees, CompilationUnitTree unit) {
            this.trees = trees;
            this.unit = unit;
        }

        void check(boolean right, int rule, Tree where, String what) {
            if (!right) {
                wrong++;
                long line = lineAt(trees.getSourcePositions().getStartPosition(unit, where));
                System.out.println("rule " + rule + ", line " + line + ": " + what);
            }
        }

        long lineAt(long position) {
            return position < 0 ? 0 : unit.getLineMap().getLineNumber(position);
        }

        @Override
        public Void scan(Tree tree, Void none) {
            if (tree != null) {
                check(!UNWANTED.contains(tree.getKind().name()), 2, tree, "a " + tree.getKind());
            }
            return super.scan(tree, none);
        }

        @Override
        public Void visitClass(ClassTree tree, Void none) {
            boolean isOuter = classes == 0;
            classes++;
            check(classes <= 12, 11, tree, "more than twelve classes");
            Set<Modifier> flags = tree.getModifiers().getFlags();
            check(isOuter ? flags.contains(Modifier.PUBLIC) : flags.contains(Modifier.STATIC)
                    && flags.contains(Modifier.PRIVATE), 1, tree, "class " + tree.getSimpleName() + " is " + flags);
            check(method == null, 2, tree, "a class inside a method");
            int fields = 0;
            for (Tree member : tree.getMembers()) {
                check(member.getKind() != Tree.Kind.BLOCK, 5, member, "an initialiser block");
                fields += member instanceof VariableTree && !isStatic((VariableTree) member) ? 1 : 0;
            }
            check(fields <= 20, 11, tree, fields + " fields");
            return super.visitClass(tree, none);
        }

        static boolean isStatic(VariableTree tree) {
            return tree.getModifiers().getFlags().contains(Modifier.STATIC);
        }

        @Override
        public Void visitVariable(VariableTree tree, Void none) {
            String type = String.valueOf(tree.getType());
            check(TYPES.contains(type), 3, tree, "type " + type);
            if (isStatic(tree)) {
                check(tree.getModifiers().getFlags().contains(Modifier.FINAL) && (type.equals("int")
                        || type.equals("long")), 5, tree, "static " + tree.getName());
            }
            return super.visitVariable(tree, none);
        }

        @Override
        public Void visitMethod(MethodTree tree, Void none) {
            long first = lineAt(trees.getSourcePositions().getStartPosition(unit, tree));
            long last = lineAt(trees.getSourcePositions().getEndPosition(unit, tree));
            check(last - first < 60, 11, tree, tree.getName() + " has " + (last - first + 1) + " lines");
            check(tree.getParameters().size() <= 7, 11, tree, tree.getName() + " takes too many values");
            check(tree.getReturnType() == null || TYPES.contains(tree.getReturnType().toString()), 3, tree,
                    "type " + tree.getReturnType());
            method = trees.getElement(getCurrentPath());
            calls.putIfAbsent(method, new LinkedHashSet<>());
            super.visitMethod(tree, none);
            method = null;
            return null;
        }

        @Override
        public Void visitMethodInvocation(MethodInvocationTree tree, Void none) {
            addCall(tree);
            return super.visitMethodInvocation(tree, none);
        }

        @Override
        public Void visitNewClass(NewClassTree tree, Void none) {
            addCall(tree);
            check(tree.getClassBody() == null, 2, tree, "an anonymous class");
            checkMaking(tree);
            return super.visitNewClass(tree, none);
        }

        @Override
        public Void visitNewArray(NewArrayTree tree, Void none) {
            checkMaking(tree);
            return super.visitNewArray(tree, none);
        }

        /** The class makes its rows once: a field's first value, a constructor, or what is thrown. */
        void checkMaking(Tree tree) {
            check(method == null || method.getSimpleName().contentEquals("<init>") || inThrow, 12, tree,
                    method + " makes an object");
        }

        void addCall(Tree tree) {
            Element called = trees.getElement(getCurrentPath());
            String name = called.getEnclosingElement().getSimpleName() + "." + called.getSimpleName();
            boolean isOwn = called.getEnclosingElement().toString().startsWith("PairDecoder");
            check(isOwn || LIBRARY.contains(name), 4, tree, "the library's " + name);
            if (isOwn && method != null) {
                calls.computeIfAbsent(method, m -> new LinkedHashSet<>()).add(called);
            }
        }

        @Override
        public Void visitTypeCast(TypeCastTree tree, Void none) {
            check(tree.getType().toString().equals("int"), 7, tree, "a cast to " + tree.getType());
            return super.visitTypeCast(tree, none);
        }

        @Override
        public Void visitBinary(BinaryTree tree, Void none) {
            if (tree.getKind() == Tree.Kind.DIVIDE) {
                Element divisor = trees.getElement(new TreePath(getCurrentPath(), tree.getRightOperand()));
                check(divisor instanceof VariableElement
                        && ((VariableElement) divisor).getConstantValue() instanceof Long
                        && (Long) ((VariableElement) divisor).getConstantValue() != 0L, 7, tree,
                        "divides by what is no constant");
            }
            return super.visitBinary(tree, none);
        }

        @Override
        public Void visitThrow(ThrowTree tree, Void none) {
            boolean isNew = tree.getExpression() instanceof NewClassTree;
            check(isNew && ((NewClassTree) tree.getExpression()).getArguments().stream()
                    .allMatch(a -> a.getKind() == Tree.Kind.STRING_LITERAL), 6, tree, "throws no new one");
            check(method.getModifiers().contains(Modifier.PUBLIC), 6, tree, method + " throws");
            inThrow = true;
            super.visitThrow(tree, none);
            inThrow = false;
            return null;
        }

        @Override
        public Void visitForLoop(ForLoopTree tree, Void none) {
            checkEnd(tree, tree.getCondition());
            return super.visitForLoop(tree, none);
        }

        @Override
        public Void visitWhileLoop(WhileLoopTree tree, Void none) {
            checkEnd(tree, tree.getCondition());
            return super.visitWhileLoop(tree, none);
        }

        /** A name that must stay below a bound, is counted up, and neither it nor the bound set otherwise. */
        void checkEnd(Tree loop, ExpressionTree condition) {
            Changes changes = new Changes();
            if (loop instanceof ForLoopTree) {
                changes.scan(((ForLoopTree) loop).getUpdate(), null);
                changes.scan(((ForLoopTree) loop).getStatement(), null);
            } else {
                changes.scan(((WhileLoopTree) loop).getStatement(), null);
            }
            boolean ends = false;
            for (BinaryTree bound : boundsOf(condition)) {
                String counter = bound.getLeftOperand().toString();
                String limit = bound.getRightOperand().toString();
                ends |= changes.countedUp.contains(counter) && !changes.set.contains(counter)
                        && !changes.set.contains(limit) && !changes.countedUp.contains(limit);
            }
            check(ends, 9, loop, "no end can be seen");
        }

        static List<BinaryTree> boundsOf(ExpressionTree condition) {
            List<BinaryTree> bounds = new ArrayList<>();
            if (condition instanceof ParenthesizedTree) {
                return boundsOf(((ParenthesizedTree) condition).getExpression());
            }
            if (condition instanceof BinaryTree) {
                BinaryTree both = (BinaryTree) condition;
                if (both.getKind() == Tree.Kind.CONDITIONAL_AND) {
                    bounds.addAll(boundsOf(both.getLeftOperand()));
                    bounds.addAll(boundsOf(both.getRightOperand()));
                } else if (both.getKind() == Tree.Kind.LESS_THAN || both.getKind() == Tree.Kind.LESS_THAN_EQUAL) {
                    bounds.add(both);
                }
            }
            return bounds;
        }

        /** How many calls stand open at most when this one is made; the calls that stand open already are given. */
        int depthOf(Element called, Set<Element> open) {
            if (!open.add(called)) {
                wrong++;
                System.out.println("rule 8: " + called + " calls itself, if over others");
                return 0;
            }
            int deepest = 0;
            for (Element next : calls.getOrDefault(called, new HashSet<>())) {
                deepest = Math.max(deepest, depthOf(next, open));
            }
            open.remove(called);
            return deepest + 1;
        }

        void checkDepths() {
            for (Element called : calls.keySet()) {
                int depth = depthOf(called, new HashSet<>());
                if (depth > 8) {
                    wrong++;
                    System.out.println("rule 11: " + called + " goes " + depth + " deep");
                }
            }
        }
    }

    private static void checkFile() throws IOException {
        for (byte b : Files.readAllBytes(SOURCE)) {
            if (b < 0) {
                wrong++;
                System.out.println("rule 3: a character beyond ASCII");
                return;
            }
        }
    }

    public static void main(String[] args) throws IOException {
        checkFile();
        JavaCompiler compiler = ToolProvider.getSystemJavaCompiler();
        try (StandardJavaFileManager files = compiler.getStandardFileManager(null, null, null)) {
            JavacTask task = (JavacTask) compiler.getTask(null, files, null, List.of("--release", "17"), null,
                    files.getJavaFileObjects(SOURCE));
            CompilationUnitTree unit = task.parse().iterator().next();
            task.analyze();
            Reader reader = new Reader(Trees.instance(task), unit);
            reader.check(unit.getTypeDecls().size() == 1, 1, unit, "not one class in the file");
            reader.scan(unit, null);
            reader.checkDepths();
            System.out.println(wrong == 0 ? reader.calls.size() + " methods and constructors keep to the rules"
                    : wrong + " things are outside the rules");
        }
        if (wrong != 0) {
            System.exit(1);
        }
    }
}
