import com.sun.source.tree.AssertTree;
import com.sun.source.tree.AssignmentTree;
import com.sun.source.tree.BinaryTree;
import com.sun.source.tree.BlockTree;
import com.sun.source.tree.ClassTree;
import com.sun.source.tree.CompilationUnitTree;
import com.sun.source.tree.DoWhileLoopTree;
import com.sun.source.tree.EnhancedForLoopTree;
import com.sun.source.tree.ExpressionTree;
import com.sun.source.tree.ForLoopTree;
import com.sun.source.tree.ImportTree;
import com.sun.source.tree.LambdaExpressionTree;
import com.sun.source.tree.LiteralTree;
import com.sun.source.tree.MemberReferenceTree;
import com.sun.source.tree.MethodInvocationTree;
import com.sun.source.tree.MethodTree;
import com.sun.source.tree.NewArrayTree;
import com.sun.source.tree.NewClassTree;
import com.sun.source.tree.SynchronizedTree;
import com.sun.source.tree.ThrowTree;
import com.sun.source.tree.Tree;
import com.sun.source.tree.TryTree;
import com.sun.source.tree.TypeCastTree;
import com.sun.source.tree.VariableTree;
import com.sun.source.tree.WhileLoopTree;
import com.sun.source.util.JavacTask;
import com.sun.source.util.TreePath;
import com.sun.source.util.TreePathScanner;
import com.sun.source.util.Trees;
import java.io.File;
import java.io.IOException;
import java.util.HashMap;
import java.util.LinkedHashSet;
import java.util.List;
import java.util.Map;
import java.util.Set;
import java.util.TreeSet;
import javax.lang.model.element.Element;
import javax.lang.model.element.ElementKind;
import javax.lang.model.element.Modifier;
import javax.lang.model.type.ArrayType;
import javax.lang.model.type.DeclaredType;
import javax.lang.model.type.TypeKind;
import javax.lang.model.type.TypeMirror;
import javax.tools.JavaCompiler;
import javax.tools.StandardJavaFileManager;
import javax.tools.ToolProvider;

/** The class keeps to those rules of LANGUAGE.md that can be seen in its text; run where README.md is. */
public final class LanguageTest {
    private static final Check CHECK = new Check("LanguageTest");
    private static final String FILE = "src/main/java/Popupwright.java";
    private static final int MOST_LINES = 60;
    private static final int MOST_DEEP = 8;
    private static final Set<String> THROWN = Set.of("IllegalStateException", "IllegalArgumentException",
            "IndexOutOfBoundsException", "ArithmeticException", "UnsupportedOperationException",
            "NoSuchElementException", "RuntimeException");
    private static final Set<String> CONSTANTS = Set.of("int", "long", "boolean", "char", "String",
            "int[]", "long[]", "char[]", "byte[]");
    private static final Set<String> LIBRARY = Set.of("Math.max", "Math.min", "Math.abs");

    public static void main(String[] args) throws IOException {
        JavaCompiler compiler = ToolProvider.getSystemJavaCompiler();
        try (StandardJavaFileManager files = compiler.getStandardFileManager(null, null, null)) {
            JavacTask task = (JavacTask) compiler.getTask(null, files, null, List.of("--release", "17", "-proc:none"),
                    null, files.getJavaFileObjects(new File(FILE)));
            CompilationUnitTree unit = task.parse().iterator().next();
            task.analyze();
            Reader reader = new Reader(unit, Trees.instance(task));
            reader.scan(unit, null);
            reader.end();
        }
        CHECK.end();
    }

    private static final class Reader extends TreePathScanner<Void, Void> {
        private final CompilationUnitTree unit;
        private final Trees trees;
        private final Map<Element, Set<Element>> calls = new HashMap<>();
        private MethodTree method;
        private int classes;

        Reader(CompilationUnitTree itsUnit, Trees itsTrees) {
            unit = itsUnit;
            trees = itsTrees;
        }

        void end() {
            CHECK.yes("2: a class without a package", unit.getPackageName() == null);
            CHECK.yes("11: some twelve classes, not " + classes, classes <= 13);
            int deepest = 0;
            for (Element one : calls.keySet()) {
                deepest = Math.max(deepest, depth(one, 0));
            }
            CHECK.yes("8, 11: no recursion, calls at most eight deep, not " + deepest, deepest <= MOST_DEEP);
            CHECK.yes("the methods were read", calls.size() > 100 && deepest > 2);
        }

        private int depth(Element of, int before) {
            int most = 1;
            if (before > MOST_DEEP) {
                return most;
            }
            for (Element called : calls.getOrDefault(of, Set.of())) {
                most = Math.max(most, 1 + depth(called, before + 1));
            }
            return most;
        }

        private String at(Tree tree) {
            long start = trees.getSourcePositions().getStartPosition(unit, tree);
            return " in line " + unit.getLineMap().getLineNumber(start);
        }

        private void never(String rule, Tree tree) {
            CHECK.no(rule + at(tree), true);
        }

        private TypeMirror typeOf(Tree tree) {
            return trees.getTypeMirror(new TreePath(getCurrentPath(), tree));
        }

        private static boolean isOwn(Element element) {
            Element outer = element;
            while (outer.getEnclosingElement() != null && outer.getEnclosingElement().getKind().isClass()) {
                outer = outer.getEnclosingElement();
            }
            return outer.getSimpleName().contentEquals("Popupwright");
        }

        @Override
        public Void visitImport(ImportTree tree, Void none) {
            CHECK.yes("4: no library but what it lists" + at(tree),
                    Set.of("java.util.NoSuchElementException", "java.util.ArrayList", "java.util.List",
                            "java.util.Arrays").contains(tree.getQualifiedIdentifier().toString()));
            return super.visitImport(tree, none);
        }

        @Override
        public Void visitClass(ClassTree tree, Void none) {
            classes++;
            int fields = 0;
            for (Tree member : tree.getMembers()) {
                if (member instanceof BlockTree) {
                    never("5: no initialiser block", member);
                }
                boolean isField = member instanceof VariableTree;
                boolean isStatic = isField && ((VariableTree) member).getModifiers().getFlags().contains(Modifier.STATIC);
                if (isStatic) {
                    constant((VariableTree) member);
                }
                fields += isField && !isStatic ? 1 : 0;
            }
            CHECK.yes("11: some twenty fields at most, not " + fields + at(tree), fields <= 20);
            CHECK.yes("2: no local class" + at(tree), method == null);
            return super.visitClass(tree, none);
        }

        private void constant(VariableTree tree) {
            String type = tree.getType().toString();
            CHECK.yes("5: a static field is final" + at(tree), tree.getModifiers().getFlags().contains(Modifier.FINAL));
            CHECK.yes("5: a static field is a constant" + at(tree), CONSTANTS.contains(type));
        }

        @Override
        public Void visitMethod(MethodTree tree, Void none) {
            method = tree;
            Element element = trees.getElement(getCurrentPath());
            calls.put(element, new LinkedHashSet<>());
            long from = trees.getSourcePositions().getStartPosition(unit, tree);
            long to = trees.getSourcePositions().getEndPosition(unit, tree);
            long lines = from < 0 || to < 0 ? 0
                    : unit.getLineMap().getLineNumber(to) - unit.getLineMap().getLineNumber(from) + 1;
            CHECK.yes("11: a method is short" + at(tree), lines <= MOST_LINES);
            CHECK.yes("11: at most seven parameters" + at(tree), tree.getParameters().size() <= 7);
            CHECK.no("6: no equals, hashCode or toString" + at(tree),
                    Set.of("equals", "hashCode", "toString").contains(tree.getName().toString()));
            super.visitMethod(tree, none);
            method = null;
            return null;
        }

        @Override
        public Void visitVariable(VariableTree tree, Void none) {
            TypeMirror type = trees.getTypeMirror(getCurrentPath());
            int dimensions = 0;
            while (type instanceof ArrayType) {
                type = ((ArrayType) type).getComponentType();
                dimensions++;
            }
            boolean isNumber = type.getKind().isPrimitive();
            boolean isOwn = type.getKind() == TypeKind.DECLARED
                    && isOwn(((DeclaredType) type).asElement());
            boolean isText = type.toString().equals("java.lang.String");
            CHECK.yes("3: a type that is listed, not " + type + at(tree),
                    isNumber && dimensions <= 2 || isOwn && dimensions <= 1 || isText && dimensions == 0);
            return super.visitVariable(tree, none);
        }

        @Override
        public Void visitMethodInvocation(MethodInvocationTree tree, Void none) {
            Element called = trees.getElement(getCurrentPath());
            boolean isConstructor = called.getKind() == ElementKind.CONSTRUCTOR;
            if (isOwn(called) && method != null && !isConstructor) {
                calls.get(trees.getElement(pathOf(method))).add(called);
            } else if (!isOwn(called) && !isConstructor) {
                String name = called.getEnclosingElement().getSimpleName() + "." + called.getSimpleName();
                CHECK.yes("4: the library has but what is listed, not " + name + at(tree), LIBRARY.contains(name));
            }
            return super.visitMethodInvocation(tree, none);
        }

        private TreePath pathOf(Tree tree) {
            return TreePath.getPath(unit, tree);
        }

        @Override
        public Void visitNewClass(NewClassTree tree, Void none) {
            boolean isThrown = getCurrentPath().getParentPath().getLeaf() instanceof ThrowTree;
            boolean isMaking = method == null || method.getReturnType() == null;
            CHECK.yes("12: objects are made in constructors, or thrown" + at(tree), isThrown || isMaking);
            CHECK.yes("2: no anonymous class" + at(tree), tree.getClassBody() == null);
            return super.visitNewClass(tree, none);
        }

        @Override
        public Void visitNewArray(NewArrayTree tree, Void none) {
            CHECK.yes("12: arrays are made in constructors" + at(tree), method == null || method.getReturnType() == null);
            return super.visitNewArray(tree, none);
        }

        @Override
        public Void visitThrow(ThrowTree tree, Void none) {
            ExpressionTree thrown = tree.getExpression();
            CHECK.yes("6: throw new" + at(tree), thrown instanceof NewClassTree);
            if (thrown instanceof NewClassTree) {
                NewClassTree made = (NewClassTree) thrown;
                CHECK.yes("6: an exception that is listed" + at(tree), THROWN.contains(made.getIdentifier().toString()));
                CHECK.yes("6: nothing, or a written text" + at(tree), made.getArguments().isEmpty()
                        || made.getArguments().size() == 1 && made.getArguments().get(0) instanceof LiteralTree);
            }
            CHECK.yes("6: no throw in a constructor" + at(tree), method != null && method.getReturnType() != null);
            return super.visitThrow(tree, none);
        }

        @Override
        public Void visitBinary(BinaryTree tree, Void none) {
            TypeMirror type = trees.getTypeMirror(getCurrentPath());
            CHECK.no("10: texts are not joined by +" + at(tree), type.toString().equals("java.lang.String"));
            return super.visitBinary(tree, none);
        }

        private void bounded(ExpressionTree condition, Tree loop) {
            CHECK.no("9: a loop has an end" + at(loop), condition == null || condition instanceof LiteralTree
                    || condition.toString().equals("(true)"));
        }

        @Override
        public Void visitForLoop(ForLoopTree tree, Void none) {
            bounded(tree.getCondition(), tree);
            return super.visitForLoop(tree, none);
        }

        @Override
        public Void visitWhileLoop(WhileLoopTree tree, Void none) {
            bounded(tree.getCondition(), tree);
            return super.visitWhileLoop(tree, none);
        }

        @Override
        public Void visitDoWhileLoop(DoWhileLoopTree tree, Void none) {
            bounded(tree.getCondition(), tree);
            return super.visitDoWhileLoop(tree, none);
        }

        @Override
        public Void visitEnhancedForLoop(EnhancedForLoopTree tree, Void none) {
            CHECK.yes("10: for over an array" + at(tree), typeOf(tree.getExpression()).getKind() == TypeKind.ARRAY);
            return super.visitEnhancedForLoop(tree, none);
        }

        @Override
        public Void visitAssignment(AssignmentTree tree, Void none) {
            Element changed = trees.getElement(new TreePath(getCurrentPath(), tree.getVariable()));
            CHECK.no("5: no static state" + at(tree), changed != null && changed.getKind() == ElementKind.FIELD
                    && changed.getModifiers().contains(Modifier.STATIC));
            return super.visitAssignment(tree, none);
        }

        @Override
        public Void visitTypeCast(TypeCastTree tree, Void none) {
            CHECK.yes("6: a cast of numbers" + at(tree), typeOf(tree.getType()).getKind().isPrimitive());
            return super.visitTypeCast(tree, none);
        }

        @Override
        public Void visitTry(TryTree tree, Void none) {
            never("6: this class needs no try", tree);
            return super.visitTry(tree, none);
        }

        @Override
        public Void visitLambdaExpression(LambdaExpressionTree tree, Void none) {
            never("2: no lambda", tree);
            return super.visitLambdaExpression(tree, none);
        }

        @Override
        public Void visitMemberReference(MemberReferenceTree tree, Void none) {
            never("2: no method reference", tree);
            return super.visitMemberReference(tree, none);
        }

        @Override
        public Void visitSynchronized(SynchronizedTree tree, Void none) {
            never("6: no synchronized", tree);
            return super.visitSynchronized(tree, none);
        }

        @Override
        public Void visitAssert(AssertTree tree, Void none) {
            never("6: no assert", tree);
            return super.visitAssert(tree, none);
        }
    }
}
