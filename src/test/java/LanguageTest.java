import com.sun.source.tree.AssertTree;
import com.sun.source.tree.BinaryTree;
import com.sun.source.tree.ClassTree;
import com.sun.source.tree.CompilationUnitTree;
import com.sun.source.tree.CompoundAssignmentTree;
import com.sun.source.tree.ExpressionTree;
import com.sun.source.tree.ImportTree;
import com.sun.source.tree.LambdaExpressionTree;
import com.sun.source.tree.LiteralTree;
import com.sun.source.tree.MemberReferenceTree;
import com.sun.source.tree.MethodInvocationTree;
import com.sun.source.tree.MethodTree;
import com.sun.source.tree.NewArrayTree;
import com.sun.source.tree.NewClassTree;
import com.sun.source.tree.SynchronizedTree;
import com.sun.source.tree.ThrowTree;
import com.sun.source.tree.Tree;
import com.sun.source.tree.TryTree;
import com.sun.source.tree.VariableTree;
import com.sun.source.util.JavacTask;
import com.sun.source.util.SourcePositions;
import com.sun.source.util.TreePath;
import com.sun.source.util.TreePathScanner;
import com.sun.source.util.Trees;
import java.io.File;
import java.io.IOException;
import java.util.HashMap;
import java.util.HashSet;
import java.util.List;
import java.util.Map;
import java.util.Set;
import java.util.TreeSet;
import javax.lang.model.element.Element;
import javax.lang.model.element.ElementKind;
import javax.lang.model.element.ExecutableElement;
import javax.lang.model.element.Modifier;
import javax.lang.model.element.VariableElement;
import javax.lang.model.type.TypeMirror;
import javax.tools.JavaCompiler;
import javax.tools.StandardJavaFileManager;
import javax.tools.ToolProvider;

/** The rules of ../shared/LANGUAGE.md that can be seen from the program's tree. */
public final class LanguageTest {
    private static final String PROGRAM = "src/main/java/FrontCache.java";
    private static final int MOST_CLASSES = 12;
    private static final int MOST_FIELDS = 20;
    private static final int MOST_PARAMETERS = 7;
    private static final int MOST_LINES = 60;
    private static final int DEEPEST = 8;
    /** Of what rule 4 allows, what the program has needed so far. */
    private static final Set<String> LIBRARY = Set.of(
        "java.lang.String.length", "java.lang.String.charAt", "java.lang.Math.floorMod", "java.util.Arrays.fill");
    private static final Set<String> IMPORTS = Set.of("java.util.Arrays", "java.util.ArrayList", "java.util.List");
    private static final Set<String> CONSTANTS = Set.of("int", "long", "boolean", "char", "java.lang.String");

    private final Check check = new Check("LanguageTest");
    private final Map<Element, Set<Element>> calls = new HashMap<>();
    private final Set<String> publicNames = new TreeSet<>();
    private Trees trees;
    private CompilationUnitTree unit;
    private int classes;

    public static void main(String[] args) throws IOException {
        LanguageTest test = new LanguageTest();
        test.read();
        test.check.end();
    }

    private void read() throws IOException {
        JavaCompiler compiler = ToolProvider.getSystemJavaCompiler();
        try (StandardJavaFileManager files = compiler.getStandardFileManager(null, null, null)) {
            JavacTask task = (JavacTask) compiler.getTask(null, files, null, List.of("--release", "17"), null,
                files.getJavaFileObjects(new File(PROGRAM)));
            unit = task.parse().iterator().next();
            task.analyze();
            trees = Trees.instance(task);
            new Names().scan(unit, null);
            new Rules().scan(unit, null);
        }
        check.due("a package line", unit.getPackage() != null, false);
        holds(11, classes <= MOST_CLASSES, classes + " classes");
        for (Element method : calls.keySet()) {
            int depth = depth(method, new HashSet<>());
            holds(11, depth <= DEEPEST, method + " goes " + depth + " deep");
        }
    }

    private void holds(int rule, boolean kept, String what) {
        check.due("rule " + rule + ": " + what, kept, true);
    }

    private boolean isOwn(Element element) {
        for (Element outer = element; outer != null; outer = outer.getEnclosingElement()) {
            if (outer.getKind() == ElementKind.CLASS && outer.getSimpleName().contentEquals("FrontCache")) {
                return true;
            }
        }
        return false;
    }

    private int depth(Element method, Set<Element> open) {
        open.add(method);
        int deepest = 0;
        for (Element called : calls.getOrDefault(method, Set.of())) {
            boolean again = open.contains(called);
            holds(8, !again, called + " calls itself");
            if (!again) {
                deepest = Math.max(deepest, depth(called, open));
            }
        }
        open.remove(method);
        return deepest + 1;
    }

    /** The names of the face, which have to be known before any private method is looked at. */
    private final class Names extends TreePathScanner<Void, Void> {
        @Override
        public Void visitMethod(MethodTree method, Void nothing) {
            if (method.getModifiers().getFlags().contains(Modifier.PUBLIC)) {
                publicNames.add(method.getName().toString());
            }
            return null;
        }
    }

    private final class Rules extends TreePathScanner<Void, Void> {
        /** The method that is looked at; null where a field gets its first value. */
        private Element inside;

        private Element element() {
            return trees.getElement(getCurrentPath());
        }

        private TypeMirror typeOf(Tree tree) {
            return trees.getTypeMirror(new TreePath(getCurrentPath(), tree));
        }

        private boolean isText(ExpressionTree tree) {
            return typeOf(tree).toString().equals("java.lang.String");
        }

        private long line(long position) {
            return unit.getLineMap().getLineNumber(position);
        }

        @Override
        public Void visitImport(ImportTree tree, Void nothing) {
            String name = tree.getQualifiedIdentifier().toString();
            holds(4, IMPORTS.contains(name), "import " + name);
            return null;
        }

        @Override
        public Void visitClass(ClassTree tree, Void nothing) {
            classes++;
            Set<Modifier> flags = tree.getModifiers().getFlags();
            Tree.Kind outer = getCurrentPath().getParentPath().getLeaf().getKind();
            if (outer != Tree.Kind.COMPILATION_UNIT) {
                holds(1, flags.contains(Modifier.STATIC) && !flags.contains(Modifier.PUBLIC)
                    && !flags.contains(Modifier.PROTECTED), "class " + tree.getSimpleName());
                holds(2, outer == Tree.Kind.CLASS, "where class " + tree.getSimpleName() + " stands");
            }
            int fields = 0;
            for (Tree member : tree.getMembers()) {
                if (member instanceof VariableTree field && !field.getModifiers().getFlags().contains(Modifier.STATIC)) {
                    fields++;
                }
                holds(5, member.getKind() != Tree.Kind.BLOCK, "a block in class " + tree.getSimpleName());
            }
            holds(11, fields <= MOST_FIELDS, fields + " fields in " + tree.getSimpleName());
            return super.visitClass(tree, nothing);
        }

        @Override
        public Void visitMethod(MethodTree tree, Void nothing) {
            inside = element();
            calls.computeIfAbsent(inside, key -> new HashSet<>());
            String name = tree.getName().toString();
            boolean isPublic = tree.getModifiers().getFlags().contains(Modifier.PUBLIC);
            boolean isMaker = inside.getKind() == ElementKind.CONSTRUCTOR;
            holds(1, isPublic || isMaker || !publicNames.contains(name), name + " is a name of the face");
            holds(11, tree.getParameters().size() <= MOST_PARAMETERS, "the parameters of " + name);
            SourcePositions places = trees.getSourcePositions();
            long end = places.getEndPosition(unit, tree);
            long lines = end < 0 ? 0 : line(end) - line(places.getStartPosition(unit, tree)) + 1;
            holds(11, lines <= MOST_LINES, lines + " lines of " + name);
            holds(6, tree.getThrows().isEmpty(), name + " throws");
            super.visitMethod(tree, nothing);
            inside = null;
            return null;
        }

        @Override
        public Void visitVariable(VariableTree tree, Void nothing) {
            Element variable = element();
            if (variable.getModifiers().contains(Modifier.STATIC)) {
                holds(5, variable.getModifiers().contains(Modifier.FINAL)
                    && CONSTANTS.contains(variable.asType().toString()), "static " + variable);
            }
            return super.visitVariable(tree, nothing);
        }

        @Override
        public Void visitMethodInvocation(MethodInvocationTree tree, Void nothing) {
            note((ExecutableElement) element());
            return super.visitMethodInvocation(tree, nothing);
        }

        @Override
        public Void visitNewClass(NewClassTree tree, Void nothing) {
            note((ExecutableElement) element());
            holds(2, tree.getClassBody() == null, "a class without a name");
            return super.visitNewClass(tree, nothing);
        }

        private void note(ExecutableElement called) {
            Element owner = called.getEnclosingElement();
            if (isOwn(called)) {
                calls.computeIfAbsent(inside, key -> new HashSet<>()).add(called);
            } else if (called.getKind() != ElementKind.CONSTRUCTOR || !owner.toString().equals("java.lang.Object")) {
                String name = owner + "." + called.getSimpleName();
                holds(4, LIBRARY.contains(name), name);
            }
        }

        @Override
        public Void visitNewArray(NewArrayTree tree, Void nothing) {
            String type = typeOf(tree).toString();
            holds(3, type.indexOf("[]") == type.lastIndexOf("[]"), "an array " + type);
            return super.visitNewArray(tree, nothing);
        }

        @Override
        public Void visitBinary(BinaryTree tree, Void nothing) {
            boolean ofTexts = isText(tree.getLeftOperand()) || isText(tree.getRightOperand());
            holds(tree.getKind() == Tree.Kind.PLUS ? 10 : 6, !ofTexts, tree.toString());
            // A divisor is a written number other than 0, so that nothing is divided by 0.
            if (tree.getKind() == Tree.Kind.DIVIDE || tree.getKind() == Tree.Kind.REMAINDER) {
                holds(7, isWrittenNumber(tree.getRightOperand()), tree.toString());
            }
            return super.visitBinary(tree, nothing);
        }

        private boolean isWrittenNumber(ExpressionTree tree) {
            Element named = trees.getElement(new TreePath(getCurrentPath(), tree));
            Object value = named instanceof VariableElement constant
                ? constant.getConstantValue()
                : tree instanceof LiteralTree literal ? literal.getValue() : null;
            return value instanceof Integer number && number != 0;
        }

        @Override
        public Void visitCompoundAssignment(CompoundAssignmentTree tree, Void nothing) {
            holds(10, !isText(tree.getVariable()), tree.toString());
            return super.visitCompoundAssignment(tree, nothing);
        }

        @Override
        public Void visitLambdaExpression(LambdaExpressionTree tree, Void nothing) {
            holds(2, false, "a lambda");
            return super.visitLambdaExpression(tree, nothing);
        }

        @Override
        public Void visitMemberReference(MemberReferenceTree tree, Void nothing) {
            holds(2, false, "a method reference");
            return super.visitMemberReference(tree, nothing);
        }

        @Override
        public Void visitThrow(ThrowTree tree, Void nothing) {
            holds(6, false, "a throw, which no promise asks for");
            return super.visitThrow(tree, nothing);
        }

        @Override
        public Void visitTry(TryTree tree, Void nothing) {
            holds(6, false, "a try, with nothing thrown");
            return super.visitTry(tree, nothing);
        }

        @Override
        public Void visitSynchronized(SynchronizedTree tree, Void nothing) {
            holds(6, false, "synchronized");
            return super.visitSynchronized(tree, nothing);
        }

        @Override
        public Void visitAssert(AssertTree tree, Void nothing) {
            holds(6, false, "assert");
            return super.visitAssert(tree, nothing);
        }
    }
}
