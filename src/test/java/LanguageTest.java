import com.sun.source.tree.AssertTree;
import com.sun.source.tree.BinaryTree;
import com.sun.source.tree.BlockTree;
import com.sun.source.tree.ClassTree;
import com.sun.source.tree.CompilationUnitTree;
import com.sun.source.tree.CompoundAssignmentTree;
import com.sun.source.tree.DoWhileLoopTree;
import com.sun.source.tree.ExpressionTree;
import com.sun.source.tree.ForLoopTree;
import com.sun.source.tree.LambdaExpressionTree;
import com.sun.source.tree.MemberReferenceTree;
import com.sun.source.tree.MethodInvocationTree;
import com.sun.source.tree.MethodTree;
import com.sun.source.tree.NewArrayTree;
import com.sun.source.tree.NewClassTree;
import com.sun.source.tree.SynchronizedTree;
import com.sun.source.tree.ThrowTree;
import com.sun.source.tree.Tree;
import com.sun.source.tree.TryTree;
import com.sun.source.tree.TypeCastTree;
import com.sun.source.tree.VariableTree;
import com.sun.source.tree.WhileLoopTree;
import com.sun.source.util.JavacTask;
import com.sun.source.util.TreePath;
import com.sun.source.util.TreePathScanner;
import com.sun.source.util.Trees;
import java.io.IOException;
import java.nio.file.Path;
import java.util.List;
import java.util.Map;
import java.util.Set;
import java.util.TreeMap;
import java.util.TreeSet;
import javax.lang.model.element.Element;
import javax.lang.model.element.Modifier;
import javax.lang.model.type.ArrayType;
import javax.lang.model.type.TypeKind;
import javax.lang.model.type.TypeMirror;
import javax.tools.JavaCompiler;
import javax.tools.StandardJavaFileManager;
import javax.tools.ToolProvider;

/**
 * What the compiler's own tree of the program shows of LANGUAGE.md's rules. It allows less than these do: no throw, no
 * try, no recursion, no cast among objects, objects made in constructors alone, for the program needs none of it. That a
 * loop's bound is ever reached, and an index tested, is for a reader.
 */
public final class LanguageTest {
    private static final Path PROGRAM = Path.of("src/main/java/CaskGauge.java");
    private static final int MOST_LINES = 60, MOST_PARAMETERS = 7, MOST_CLASSES = 12, MOST_FIELDS = 20, MOST_DEPTH = 8;
    private static final Set<String> LIBRARY = Set.of("java.lang.String.length", "java.lang.String.charAt",
        "java.lang.Math.max", "java.lang.Math.min", "java.lang.Integer.bitCount", "java.lang.Object.<init>");
    private static final Set<Modifier> CONSTANT = Set.of(Modifier.STATIC, Modifier.FINAL);

    public static void main(String[] args) throws IOException {
        JavaCompiler compiler = ToolProvider.getSystemJavaCompiler();
        StandardJavaFileManager files = compiler.getStandardFileManager(null, null, null);
        JavacTask task = (JavacTask) compiler.getTask(null, files, null, List.of("-proc:none"), null,
            files.getJavaFileObjects(args.length == 0 ? PROGRAM : Path.of(args[0])));
        CompilationUnitTree unit = task.parse().iterator().next();
        task.analyze();
        Reading reading = new Reading(unit, Trees.instance(task));
        Check.sentence("the form of each part");
        Check.hold("no package line", unit.getPackageName() == null);
        Check.hold("nothing is imported", unit.getImports().isEmpty());
        Check.hold("one class stands outermost", unit.getTypeDecls().size() == 1);
        reading.scan(unit, null);
        Check.sentence("LANGUAGE.md 1: no private method bears the name of a public one");
        for (String name : reading.privateNames) {
            Check.hold(name, !reading.publicNames.contains(name));
        }
        Check.sentence("LANGUAGE.md 8, 11: no recursion, calls at most eight deep");
        for (String method : reading.calls.keySet()) {
            reading.depthOf(method, new TreeSet<>());
        }
        Check.sentence("LANGUAGE.md 11: some twelve classes at most");
        Check.hold("classes: " + reading.classes, reading.classes > 0 && reading.classes <= MOST_CLASSES);
        Check.hold("methods were found: " + reading.calls.size(), reading.calls.size() > 60);
        Check.end("language");
    }

    /** One walk through the program; each part is held against the rules as it is met. */
    private static final class Reading extends TreePathScanner<Void, Void> {
        final Map<String, Set<String>> calls = new TreeMap<>();
        final Set<String> publicNames = new TreeSet<>();
        final Set<String> privateNames = new TreeSet<>();
        int classes = 0;
        private final CompilationUnitTree unit;
        private final Trees trees;
        private MethodTree method = null;
        private String methodName = "";

        Reading(CompilationUnitTree unit, Trees trees) {
            this.unit = unit;
            this.trees = trees;
        }

        private void hold(String rule, Tree tree, boolean so) {
            long line = unit.getLineMap().getLineNumber(trees.getSourcePositions().getStartPosition(unit, tree));
            Check.hold("rule " + rule + ", line " + line, so);
        }

        private TypeMirror typeOf(Tree tree) {
            return trees.getTypeMirror(new TreePath(getCurrentPath(), tree));
        }

        /** Longest chain of the program's own calls that begins with this one. */
        int depthOf(String name, Set<String> open) {
            Check.hold("rule 8: no recursion of " + name, open.add(name));
            int deepest = 0;
            if (open.size() <= 50) {
                for (String called : calls.getOrDefault(name, Set.of())) {
                    if (!open.contains(called)) {
                        deepest = Math.max(deepest, depthOf(called, open));
                    } else {
                        Check.hold("rule 8: no recursion of " + called, false);
                    }
                }
            }
            open.remove(name);
            Check.hold("rule 11: calls at most eight deep from " + name, deepest + 1 <= MOST_DEPTH);
            return deepest + 1;
        }

        @Override
        public Void visitClass(ClassTree tree, Void none) {
            classes++;
            Set<Modifier> flags = tree.getModifiers().getFlags();
            boolean outermost = getCurrentPath().getParentPath().getLeaf() == unit;
            hold("1: the class inside is static and not open", tree, outermost || (flags.contains(Modifier.STATIC)
                && !flags.contains(Modifier.PUBLIC) && !flags.contains(Modifier.PROTECTED)));
            hold("2: no anonymous or local class", tree, outermost || getCurrentPath().getParentPath().getLeaf() instanceof ClassTree);
            hold("3: nothing is extended", tree, tree.getExtendsClause() == null);
            int fields = 0;
            for (Tree member : tree.getMembers()) {
                hold("5: no initialiser block", member, !(member instanceof BlockTree));
                fields += member instanceof VariableTree && !isStatic((VariableTree) member) ? 1 : 0;
            }
            hold("11: some twenty fields", tree, fields <= MOST_FIELDS);
            return super.visitClass(tree, none);
        }

        private static boolean isStatic(VariableTree tree) {
            return tree.getModifiers().getFlags().contains(Modifier.STATIC);
        }

        @Override
        public Void visitVariable(VariableTree tree, Void none) {
            TypeMirror type = trees.getTypeMirror(getCurrentPath());
            hold("3: the type " + type, tree, isAllowed(type));
            if (isStatic(tree)) {
                hold("5: static fields are final", tree, tree.getModifiers().getFlags().containsAll(CONSTANT));
                hold("5: static fields are constants of int, long, boolean, char or String", tree,
                    Set.of("int", "long", "boolean", "char", "java.lang.String").contains(type.toString()));
            }
            return super.visitVariable(tree, none);
        }

        private boolean isAllowed(TypeMirror type) {
            if (type.getKind() == TypeKind.ARRAY) {
                TypeMirror part = ((ArrayType) type).getComponentType();
                return part.getKind() != TypeKind.ARRAY && isAllowed(part);
            }
            return type.getKind().isPrimitive() || type.toString().equals("java.lang.String") || isOwn(type.toString());
        }

        private static boolean isOwn(String name) {
            return name.equals("CaskGauge") || name.startsWith("CaskGauge.");
        }

        @Override
        public Void visitMethod(MethodTree tree, Void none) {
            Element element = trees.getElement(getCurrentPath());
            MethodTree outer = method;
            String outerName = methodName;
            method = tree;
            methodName = element.getEnclosingElement() + "." + element;
            calls.computeIfAbsent(methodName, name -> new TreeSet<>());
            if (tree.getModifiers().getFlags().contains(Modifier.PUBLIC)) {
                publicNames.add(tree.getName().toString());
            } else if (!isConstructor() && tree.getModifiers().getFlags().contains(Modifier.PRIVATE)) {
                privateNames.add(tree.getName().toString());
            }
            // a constructor that the compiler adds has no lines of its own
            long from = trees.getSourcePositions().getStartPosition(unit, tree);
            long to = trees.getSourcePositions().getEndPosition(unit, tree);
            hold("11: methods stay short", tree, to < 0
                || unit.getLineMap().getLineNumber(to) - unit.getLineMap().getLineNumber(from) < MOST_LINES);
            hold("11: seven parameters", tree, tree.getParameters().size() <= MOST_PARAMETERS);
            hold("6: nothing is declared to be thrown", tree, tree.getThrows().isEmpty());
            hold("6: no equals, hashCode, toString", tree,
                !Set.of("equals", "hashCode", "toString").contains(tree.getName().toString()));
            super.visitMethod(tree, none);
            method = outer;
            methodName = outerName;
            return null;
        }

        @Override
        public Void visitMethodInvocation(MethodInvocationTree tree, Void none) {
            Element called = trees.getElement(getCurrentPath());
            String owner = called.getEnclosingElement().toString();
            if (isOwn(owner)) {
                calls.get(methodName).add(owner + "." + called);
                hold("12: a constructor calls nothing", tree, !isConstructor());
            } else {
                hold("4: " + owner + "." + called, tree, LIBRARY.contains(owner + "." + called.getSimpleName()));
            }
            for (ExpressionTree argument : tree.getArguments()) {
                hold("3: no library on floats", tree, isOwn(owner) || !isFloating(typeOf(argument)));
            }
            return super.visitMethodInvocation(tree, none);
        }

        private boolean isConstructor() {
            return method != null && method.getReturnType() == null;
        }

        private static boolean isFloating(TypeMirror type) {
            return type.getKind() == TypeKind.FLOAT || type.getKind() == TypeKind.DOUBLE;
        }

        @Override
        public Void visitNewClass(NewClassTree tree, Void none) {
            Element made = trees.getElement(getCurrentPath());
            hold("12: objects are made in constructors", tree, isConstructor());
            hold("4: objects of its own classes", tree, isOwn(made.getEnclosingElement().toString()));
            calls.get(methodName).add(made.getEnclosingElement() + "." + made);
            return super.visitNewClass(tree, none);
        }

        @Override
        public Void visitNewArray(NewArrayTree tree, Void none) {
            hold("12: rows are made in constructors", tree, isConstructor());
            return super.visitNewArray(tree, none);
        }

        @Override
        public Void visitBinary(BinaryTree tree, Void none) {
            hold("10: texts are not joined by +", tree, typeOf(tree.getLeftOperand()).getKind().isPrimitive()
                || tree.getKind() != Tree.Kind.PLUS);
            if (tree.getKind() == Tree.Kind.DIVIDE || tree.getKind() == Tree.Kind.REMAINDER) {
                hold("7: a divisor is looked at", tree, isNeverZero(tree.getRightOperand()));
            }
            return super.visitBinary(tree, none);
        }

        /** A constant, or what the same method compares with 0 (a cast of it, too). */
        private boolean isNeverZero(ExpressionTree divisor) {
            ExpressionTree bare = divisor instanceof TypeCastTree ? ((TypeCastTree) divisor).getExpression() : divisor;
            Element element = trees.getElement(new TreePath(getCurrentPath(), bare));
            boolean constant = element != null && element.getModifiers().containsAll(CONSTANT);
            return constant || method.toString().matches("(?s).*\\b" + bare + " == 0\\b.*");
        }

        @Override
        public Void visitCompoundAssignment(CompoundAssignmentTree tree, Void none) {
            hold("7: no divisor behind /= or %=", tree, tree.getKind() != Tree.Kind.DIVIDE_ASSIGNMENT
                && tree.getKind() != Tree.Kind.REMAINDER_ASSIGNMENT);
            hold("10: texts are not joined by +=", tree, typeOf(tree.getVariable()).getKind().isPrimitive());
            return super.visitCompoundAssignment(tree, none);
        }

        @Override
        public Void visitTypeCast(TypeCastTree tree, Void none) {
            hold("7: casts of numbers alone", tree, typeOf(tree.getType()).getKind().isPrimitive());
            return super.visitTypeCast(tree, none);
        }

        @Override
        public Void visitForLoop(ForLoopTree tree, Void none) {
            hold("9: a loop's end is in its own lines", tree, tree.getCondition() != null && tree.getUpdate().size() == 1);
            return super.visitForLoop(tree, none);
        }

        @Override
        public Void visitWhileLoop(WhileLoopTree tree, Void none) {
            hold("9: a counter against a bound", tree, tree.getCondition().toString().contains(" < "));
            return super.visitWhileLoop(tree, none);
        }

        @Override
        public Void visitDoWhileLoop(DoWhileLoopTree tree, Void none) {
            hold("9: a counter against a bound", tree, tree.getCondition().toString().contains(" < "));
            return super.visitDoWhileLoop(tree, none);
        }

        private Void outside(String rule, Tree tree) {
            hold(rule, tree, false);
            return null;
        }

        @Override
        public Void visitLambdaExpression(LambdaExpressionTree tree, Void none) {
            return outside("2: no lambda", tree);
        }

        @Override
        public Void visitMemberReference(MemberReferenceTree tree, Void none) {
            return outside("2: no method reference", tree);
        }

        @Override
        public Void visitThrow(ThrowTree tree, Void none) {
            return outside("6: the document wants no exception", tree);
        }

        @Override
        public Void visitTry(TryTree tree, Void none) {
            return outside("6: nothing is caught", tree);
        }

        @Override
        public Void visitSynchronized(SynchronizedTree tree, Void none) {
            return outside("6: no synchronized", tree);
        }

        @Override
        public Void visitAssert(AssertTree tree, Void none) {
            return outside("6: no assert", tree);
        }
    }
}
