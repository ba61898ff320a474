import com.sun.source.tree.AssertTree;
import com.sun.source.tree.BinaryTree;
import com.sun.source.tree.BlockTree;
import com.sun.source.tree.ClassTree;
import com.sun.source.tree.CompilationUnitTree;
import com.sun.source.tree.CompoundAssignmentTree;
import com.sun.source.tree.EnhancedForLoopTree;
import com.sun.source.tree.ExpressionTree;
import com.sun.source.tree.ImportTree;
import com.sun.source.tree.LambdaExpressionTree;
import com.sun.source.tree.LiteralTree;
import com.sun.source.tree.MemberReferenceTree;
import com.sun.source.tree.MethodInvocationTree;
import com.sun.source.tree.MethodTree;
import com.sun.source.tree.NewClassTree;
import com.sun.source.tree.SynchronizedTree;
import com.sun.source.tree.ThrowTree;
import com.sun.source.tree.Tree;
import com.sun.source.tree.TryTree;
import com.sun.source.tree.TypeCastTree;
import com.sun.source.tree.VariableTree;
import com.sun.source.util.JavacTask;
import com.sun.source.util.SourcePositions;
import com.sun.source.util.TreePath;
import com.sun.source.util.TreePathScanner;
import com.sun.source.util.Trees;
import java.io.IOException;
import java.nio.file.Path;
import java.util.HashMap;
import java.util.HashSet;
import java.util.List;
import java.util.Map;
import java.util.Set;
import java.util.TreeSet;
import javax.lang.model.element.Element;
import javax.lang.model.element.ElementKind;
import javax.lang.model.element.Modifier;
import javax.lang.model.type.ArrayType;
import javax.lang.model.type.TypeKind;
import javax.lang.model.type.TypeMirror;
import javax.tools.JavaCompiler;
import javax.tools.StandardJavaFileManager;
import javax.tools.ToolProvider;

/**
 * The rules of LANGUAGE.md that can be read off the program's text: which parts of the language and
 * of the library it uses, and how large it is. Rule 1 is with FaceTest; rules 7 and 13 are with the
 * tests that run the program.
 */
public final class LanguageTest {
    private static final String PROGRAM = "src/main/java/SlideStage.java";
    private static final int MOST_CLASSES = 12;
    private static final int MOST_FIELDS = 20;
    private static final int MOST_PARAMETERS = 7;
    private static final int LONGEST_METHOD = 60;
    private static final int DEEPEST = 8;

    private static final Set<String> IMPORTS = Set.of("java.util.ArrayList", "java.util.List");
    private static final Set<String> THROWN = Set.of(
            "IllegalStateException", "IllegalArgumentException", "IndexOutOfBoundsException",
            "ArithmeticException", "UnsupportedOperationException", "NoSuchElementException",
            "RuntimeException");
    private static final Set<String> LIST_CALLS = Set.of(
            "add", "get", "set", "remove", "size", "isEmpty", "clear");
    private static final Set<String> MATH_CALLS = Set.of(
            "max", "min", "abs", "floorDiv", "floorMod");

    /** For each method of the program, those that it calls; a call of the library is one "library". */
    private static final Map<String, Set<String>> calls = new HashMap<>();

    private LanguageTest() {
    }

    public static void main(String[] args) throws IOException {
        JavaCompiler compiler = ToolProvider.getSystemJavaCompiler();
        StandardJavaFileManager files = compiler.getStandardFileManager(null, null, null);
        JavacTask task = (JavacTask) compiler.getTask(null, files, null, List.of("--release", "17"),
                null, files.getJavaFileObjects(Path.of(PROGRAM)));
        CompilationUnitTree unit = task.parse().iterator().next();
        task.analyze();
        new Reader(Trees.instance(task), unit).scan(new TreePath(unit), null);
        depth();
        Check.end();
    }

    private static void depth() {
        Check.due("rule 11: methods were read", true, calls.size() > 23);
        for (String method : new TreeSet<>(calls.keySet())) {
            int deep = deepest(method, new HashSet<>());
            Check.due("rule 11: " + method + " goes " + deep + " calls deep", true, deep <= DEEPEST);
        }
    }

    private static int deepest(String method, Set<String> open) {
        if (!open.add(method)) {
            Check.due("rule 8: " + method + " calls itself", false, true);
            return 0;
        }
        int deep = 0;
        for (String called : calls.getOrDefault(method, Set.of())) {
            deep = Math.max(deep, deepest(called, open));
        }
        open.remove(method);
        return deep + 1;
    }

    /** Goes through the program's text and tells what the rules do not allow. */
    private static final class Reader extends TreePathScanner<Void, Void> {
        private final Trees trees;
        private final CompilationUnitTree unit;
        private final SourcePositions places;
        private int classes = 0;
        private String method = "";
        private boolean inConstructor = false;

        Reader(Trees trees, CompilationUnitTree unit) {
            this.trees = trees;
            this.unit = unit;
            this.places = trees.getSourcePositions();
        }

        private long lineOf(long place) {
            return unit.getLineMap().getLineNumber(place);
        }

        private void rule(int number, Tree where, String what, boolean kept) {
            long line = lineOf(places.getStartPosition(unit, where));
            Check.due("rule " + number + ": line " + line + ": " + what, true, kept);
        }

        private void never(int number, Tree where, String what) {
            rule(number, where, what, false);
        }

        private TypeMirror typeOf(Tree tree) {
            return trees.getTypeMirror(new TreePath(getCurrentPath(), tree));
        }

        private boolean isText(Tree tree) {
            return String.valueOf(typeOf(tree)).equals("java.lang.String");
        }

        private static boolean isOwn(String type) {
            return type.equals("SlideStage") || type.startsWith("SlideStage.");
        }

        @Override
        public Void visitImport(ImportTree tree, Void none) {
            String name = tree.getQualifiedIdentifier().toString();
            rule(4, tree, "import of " + name, !tree.isStatic() && IMPORTS.contains(name));
            return null;
        }

        @Override
        public Void visitClass(ClassTree tree, Void none) {
            classes++;
            rule(11, tree, "the number of classes", classes <= MOST_CLASSES);
            rule(2, tree, "a class in a method or without a name", method.isEmpty());
            int fields = 0;
            for (Tree member : tree.getMembers()) {
                if (member instanceof BlockTree) {
                    never(5, member, "an initialiser block");
                }
                if (member instanceof VariableTree field) {
                    boolean isStatic = field.getModifiers().getFlags().contains(Modifier.STATIC);
                    boolean isFinal = field.getModifiers().getFlags().contains(Modifier.FINAL);
                    fields += isStatic ? 0 : 1;
                    rule(5, field, "a static field that is not final", !isStatic || isFinal);
                }
            }
            rule(11, tree, "the number of fields", fields <= MOST_FIELDS);
            return super.visitClass(tree, none);
        }

        @Override
        public Void visitMethod(MethodTree tree, Void none) {
            Element element = trees.getElement(getCurrentPath());
            method = element.getEnclosingElement() + "." + element;
            inConstructor = element.getKind() == ElementKind.CONSTRUCTOR;
            calls.putIfAbsent(method, new TreeSet<>());
            long from = lineOf(places.getStartPosition(unit, tree));
            long to = from;
            if (places.getEndPosition(unit, tree) >= 0) {
                to = lineOf(places.getEndPosition(unit, tree));
            }
            rule(11, tree, "the length of a method", to - from < LONGEST_METHOD);
            rule(11, tree, "the number of parameters", tree.getParameters().size() <= MOST_PARAMETERS);
            super.visitMethod(tree, none);
            method = "";
            return null;
        }

        @Override
        public Void visitVariable(VariableTree tree, Void none) {
            TypeMirror type = trees.getTypeMirror(getCurrentPath());
            rule(3, tree, "a variable of type " + type, isAllowed(type));
            return super.visitVariable(tree, none);
        }

        private static boolean isAllowed(TypeMirror type) {
            if (type.getKind() == TypeKind.ARRAY) {
                TypeMirror part = ((ArrayType) type).getComponentType();
                if (part.getKind() == TypeKind.ARRAY) {
                    return ((ArrayType) part).getComponentType().getKind().isPrimitive();
                }
                return part.getKind().isPrimitive() || isOwn(part.toString());
            }
            String name = type.toString();
            return type.getKind().isPrimitive() || isOwn(name) || name.equals("java.lang.String")
                    || name.equals("java.lang.StringBuilder")
                    || name.matches("java\\.util\\.(Array)?List<(SlideStage\\.\\w+|java\\.lang\\.Integer)>");
        }

        @Override
        public Void visitMethodInvocation(MethodInvocationTree tree, Void none) {
            Element called = trees.getElement(getCurrentPath());
            String owner = called.getEnclosingElement().toString();
            String name = called.getSimpleName().toString();
            if (isOwn(owner)) {
                noteCall(owner + "." + called);
            } else if (!owner.equals("java.lang.Object") || called.getKind() != ElementKind.CONSTRUCTOR) {
                noteCall("library");
                boolean ofList = owner.matches("java\\.util\\.(Array)?List<?.*") && LIST_CALLS.contains(name);
                boolean ofMath = owner.equals("java.lang.Math") && MATH_CALLS.contains(name);
                rule(4, tree, "a call of " + owner + "." + name, ofList || ofMath);
            }
            return super.visitMethodInvocation(tree, none);
        }

        @Override
        public Void visitNewClass(NewClassTree tree, Void none) {
            Element made = trees.getElement(getCurrentPath());
            String owner = made.getEnclosingElement().toString();
            boolean thrown = getCurrentPath().getParentPath().getLeaf() instanceof ThrowTree;
            noteCall(isOwn(owner) ? owner + "." + made : "library");
            rule(4, tree, "an object of " + owner,
                    thrown || isOwn(owner) || owner.startsWith("java.util.ArrayList"));
            return super.visitNewClass(tree, none);
        }

        private void noteCall(String called) {
            if (!method.isEmpty()) {
                calls.get(method).add(called);
            }
        }

        @Override
        public Void visitThrow(ThrowTree tree, Void none) {
            rule(6, tree, "a throw in a constructor", !inConstructor);
            boolean plain = tree.getExpression() instanceof NewClassTree made
                    && THROWN.contains(made.getIdentifier().toString()) && isWritten(made.getArguments());
            rule(6, tree, "what is thrown", plain);
            return super.visitThrow(tree, none);
        }

        private static boolean isWritten(List<? extends ExpressionTree> arguments) {
            return arguments.isEmpty()
                    || arguments.size() == 1 && arguments.get(0) instanceof LiteralTree text
                            && text.getValue() instanceof String;
        }

        @Override
        public Void visitBinary(BinaryTree tree, Void none) {
            boolean ofTexts = isText(tree.getLeftOperand()) || isText(tree.getRightOperand());
            rule(10, tree, "an operator on a text", !ofTexts);
            return super.visitBinary(tree, none);
        }

        @Override
        public Void visitCompoundAssignment(CompoundAssignmentTree tree, Void none) {
            rule(10, tree, "an operator on a text", !isText(tree.getVariable()));
            return super.visitCompoundAssignment(tree, none);
        }

        @Override
        public Void visitEnhancedForLoop(EnhancedForLoopTree tree, Void none) {
            rule(12, tree, "a loop that makes an iterator",
                    typeOf(tree.getExpression()).getKind() == TypeKind.ARRAY);
            return super.visitEnhancedForLoop(tree, none);
        }

        @Override
        public Void visitTypeCast(TypeCastTree tree, Void none) {
            rule(6, tree, "a cast of an object", typeOf(tree.getType()).getKind().isPrimitive());
            return super.visitTypeCast(tree, none);
        }

        @Override
        public Void visitLambdaExpression(LambdaExpressionTree tree, Void none) {
            never(2, tree, "a lambda");
            return super.visitLambdaExpression(tree, none);
        }

        @Override
        public Void visitMemberReference(MemberReferenceTree tree, Void none) {
            never(2, tree, "a method reference");
            return super.visitMemberReference(tree, none);
        }

        @Override
        public Void visitTry(TryTree tree, Void none) {
            never(6, tree, "a try: the program has no need of one");
            return super.visitTry(tree, none);
        }

        @Override
        public Void visitSynchronized(SynchronizedTree tree, Void none) {
            never(6, tree, "synchronized");
            return super.visitSynchronized(tree, none);
        }

        @Override
        public Void visitAssert(AssertTree tree, Void none) {
            never(6, tree, "an assert");
            return super.visitAssert(tree, none);
        }
    }
}
