import com.sun.source.tree.AssertTree;
import com.sun.source.tree.BinaryTree;
import com.sun.source.tree.CatchTree;
import com.sun.source.tree.ClassTree;
import com.sun.source.tree.CompilationUnitTree;
import com.sun.source.tree.LambdaExpressionTree;
import com.sun.source.tree.LiteralTree;
import com.sun.source.tree.MemberReferenceTree;
import com.sun.source.tree.MethodInvocationTree;
import com.sun.source.tree.MethodTree;
import com.sun.source.tree.NewClassTree;
import com.sun.source.tree.SynchronizedTree;
import com.sun.source.tree.ThrowTree;
import com.sun.source.tree.Tree;
import com.sun.source.tree.TryTree;
import com.sun.source.tree.TypeCastTree;
import com.sun.source.tree.VariableTree;
import com.sun.source.tree.WhileLoopTree;
import com.sun.source.util.JavacTask;
import com.sun.source.util.TreePathScanner;
import com.sun.source.util.Trees;
import java.io.IOException;
import java.nio.file.Path;
import java.util.ArrayList;
import java.util.HashMap;
import java.util.List;
import java.util.Map;
import java.util.Set;
import java.util.TreeSet;
import javax.lang.model.element.Element;
import javax.lang.model.element.ElementKind;
import javax.lang.model.element.Modifier;
import javax.lang.model.type.TypeMirror;
import javax.tools.JavaCompiler;
import javax.tools.StandardJavaFileManager;
import javax.tools.ToolProvider;

/** The program's text keeps to LANGUAGE.md, as far as a walk through what the compiler makes of it can tell. */
public final class LanguageTest {
    private static final Set<String> LIBRARY = Set.of(
            "java.util.ArrayList.add", "java.util.ArrayList.get", "java.util.ArrayList.size",
            "java.util.ArrayList.isEmpty", "java.lang.Math.max", "java.lang.Math.min", "java.lang.Integer.bitCount");
    private static final Set<String> EXCEPTIONS = Set.of(
            "java.lang.IllegalStateException", "java.lang.IllegalArgumentException",
            "java.lang.IndexOutOfBoundsException", "java.lang.UnsupportedOperationException",
            "java.util.NoSuchElementException");
    private static final Set<String> OF_OBJECTS = Set.of("equals", "hashCode", "toString", "finalize", "clone");
    private static final Set<String> PLAIN_TYPES = Set.of("int", "long", "char", "boolean", "float", "double", "int[]");
    private static final int DEEPEST = 8;
    private static final int MOST_PARAMETERS = 7;
    private static final int MOST_LINES = 60;
    private static final int MOST_CLASSES = 12;
    private static final int MOST_FIELDS = 20;
    private static final Check CHECK = new Check("LanguageTest");

    public static void main(String[] args) throws IOException {
        Path program = Path.of(args.length > 0 ? args[0] : "src/main/java/IsochroneBench.java");
        Walk walk = walk(program);
        CHECK.due("what breaks a rule", walk.broken, List.of());
        CHECK.due("classes, at most " + MOST_CLASSES, walk.classes > 0 && walk.classes <= MOST_CLASSES, true);
        CHECK.due("calls of the face", walk.face.size(), 47);
        for (String call : walk.face) {
            int depth = walk.depth(call, new ArrayList<>());
            CHECK.due(call + " goes at most " + DEEPEST + " deep, not " + depth, depth <= DEEPEST, true);
        }
        CHECK.due("calls that come round to themselves", walk.round, Set.of());
        CHECK.due("calls that none needs", walk.needless(), Set.of());
        CHECK.end();
    }

    private static Walk walk(Path program) throws IOException {
        JavaCompiler compiler = ToolProvider.getSystemJavaCompiler();
        try (StandardJavaFileManager files = compiler.getStandardFileManager(null, null, null)) {
            JavacTask task = (JavacTask) compiler.getTask(null, files, null, List.of("-proc:none"), null,
                    files.getJavaFileObjects(program));
            Iterable<? extends CompilationUnitTree> units = task.parse();
            task.analyze();
            Walk walk = new Walk(Trees.instance(task));
            for (CompilationUnitTree unit : units) {
                walk.unit = unit;
                walk.scan(unit, null);
            }
            return walk;
        }
    }

    /** Goes through the tree once and keeps what breaks a rule, and which call makes which. */
    private static final class Walk extends TreePathScanner<Void, Void> {
        private final Trees trees;
        private final List<String> broken = new ArrayList<>();
        private final Map<String, Set<String>> calls = new HashMap<>();
        private final Set<String> face = new TreeSet<>();
        private final Set<String> round = new TreeSet<>();
        private CompilationUnitTree unit;
        private String method = "";
        private boolean inConstructor;
        private int classes;

        Walk(Trees trees) {
            this.trees = trees;
        }

        int depth(String call, List<String> open) {
            if (open.contains(call)) {
                round.add(call);
                return 0;
            }
            open.add(call);
            int deepest = 0;
            for (String next : calls.getOrDefault(call, Set.of())) {
                deepest = Math.max(deepest, depth(next, open));
            }
            open.remove(call);
            return deepest + 1;
        }

        Set<String> needless() {
            Set<String> left = new TreeSet<>(calls.keySet());
            left.removeAll(face);
            for (Set<String> made : calls.values()) {
                left.removeAll(made);
            }
            return left;
        }

        private void breaks(Tree tree, String why) {
            long place = trees.getSourcePositions().getStartPosition(unit, tree);
            broken.add("line " + unit.getLineMap().getLineNumber(place) + ": " + why);
        }

        private Element element() {
            return trees.getElement(getCurrentPath());
        }

        private static boolean isOwn(String name) {
            return name.startsWith("IsochroneBench");
        }

        @Override
        public Void visitClass(ClassTree tree, Void nothing) {
            classes++;
            Set<Modifier> modifiers = tree.getModifiers().getFlags();
            boolean inside = !tree.getSimpleName().contentEquals("IsochroneBench");
            Set<Modifier> due = inside ? Set.of(Modifier.PRIVATE, Modifier.STATIC, Modifier.FINAL)
                    : Set.of(Modifier.PUBLIC, Modifier.FINAL);
            if (tree.getKind() != Tree.Kind.CLASS || !modifiers.equals(due)) {
                breaks(tree, "rule 2: a class " + modifiers);
            }
            if (tree.getExtendsClause() != null || !tree.getImplementsClause().isEmpty()) {
                breaks(tree, "a class of more than its own, which the program can do without");
            }
            int fields = 0;
            for (Tree member : tree.getMembers()) {
                boolean isStatic = member instanceof VariableTree field
                        && field.getModifiers().getFlags().contains(Modifier.STATIC);
                fields += member instanceof VariableTree && !isStatic ? 1 : 0;
                if (member.getKind() == Tree.Kind.BLOCK) {
                    breaks(member, "rule 5: an initialiser block");
                }
            }
            if (fields > MOST_FIELDS) {
                breaks(tree, "rule 11: " + fields + " fields");
            }
            return super.visitClass(tree, nothing);
        }

        @Override
        public Void visitMethod(MethodTree tree, Void nothing) {
            long start = unit.getLineMap().getLineNumber(trees.getSourcePositions().getStartPosition(unit, tree));
            long end = unit.getLineMap().getLineNumber(trees.getSourcePositions().getEndPosition(unit, tree));
            if (tree.getParameters().size() > MOST_PARAMETERS) {
                breaks(tree, "rule 11: " + tree.getParameters().size() + " parameters");
            }
            if (end - start >= MOST_LINES) {
                breaks(tree, "rule 11: " + (end - start + 1) + " lines");
            }
            if (OF_OBJECTS.contains(tree.getName().toString())) {
                breaks(tree, "rule 6: " + tree.getName() + " of an own object");
            }
            Element own = element();
            method = nameOf(own);
            inConstructor = own.getKind() == ElementKind.CONSTRUCTOR;
            calls.computeIfAbsent(method, name -> new TreeSet<>());
            if (own.getModifiers().contains(Modifier.PUBLIC)) {
                face.add(method);
            }
            return super.visitMethod(tree, nothing);
        }

        private static String nameOf(Element element) {
            return element.getEnclosingElement() + "." + element.getSimpleName();
        }

        @Override
        public Void visitMethodInvocation(MethodInvocationTree tree, Void nothing) {
            Element called = element();
            String name = nameOf(called);
            if (isOwn(name)) {
                calls.computeIfAbsent(method, from -> new TreeSet<>()).add(name);
            } else if (!LIBRARY.contains(name.replaceFirst("<.*>", "")) && !name.equals("java.lang.Object.<init>")) {
                breaks(tree, "rule 4: " + name);
            }
            return super.visitMethodInvocation(tree, nothing);
        }

        @Override
        public Void visitNewClass(NewClassTree tree, Void nothing) {
            Element made = element();
            String name = made.getEnclosingElement().toString();
            boolean thrown = getCurrentPath().getParentPath().getLeaf() instanceof ThrowTree;
            if (isOwn(name)) {
                calls.computeIfAbsent(method, from -> new TreeSet<>()).add(nameOf(made));
            } else if (thrown ? !EXCEPTIONS.contains(name) : !name.startsWith("java.util.ArrayList")) {
                breaks(tree, "rule 4 or 6: new " + name);
            }
            return super.visitNewClass(tree, nothing);
        }

        @Override
        public Void visitThrow(ThrowTree tree, Void nothing) {
            if (inConstructor || tree.getExpression().getKind() != Tree.Kind.NEW_CLASS) {
                breaks(tree, "rule 6: a throw in a constructor, or of no new exception");
            }
            return super.visitThrow(tree, nothing);
        }

        @Override
        public Void visitVariable(VariableTree tree, Void nothing) {
            Element variable = element();
            TypeMirror type = variable.asType();
            String name = type.toString();
            boolean listOfOwn = name.startsWith("java.util.ArrayList<IsochroneBench.");
            if (!PLAIN_TYPES.contains(name) && !isOwn(name) && !listOfOwn) {
                breaks(tree, "rule 3: " + name);
            }
            boolean isStatic = variable.getModifiers().contains(Modifier.STATIC);
            if (isStatic && (!variable.getModifiers().contains(Modifier.FINAL) || !name.equals("int"))) {
                breaks(tree, "rule 5: a static field " + name);
            }
            return super.visitVariable(tree, nothing);
        }

        @Override
        public Void visitBinary(BinaryTree tree, Void nothing) {
            TypeMirror type = trees.getTypeMirror(getCurrentPath());
            if (type.toString().equals("java.lang.String")) {
                breaks(tree, "rule 10: texts joined by +");
            }
            return super.visitBinary(tree, nothing);
        }

        @Override
        public Void visitLiteral(LiteralTree tree, Void nothing) {
            if (tree.getValue() instanceof String text && !text.chars().allMatch(sign -> sign > 0 && sign < 128)) {
                breaks(tree, "rule 4: a sign beyond 127");
            }
            return super.visitLiteral(tree, nothing);
        }

        @Override
        public Void visitTypeCast(TypeCastTree tree, Void nothing) {
            if (!PLAIN_TYPES.contains(tree.getType().toString())) {
                breaks(tree, "rule 6: a cast to " + tree.getType());
            }
            return super.visitTypeCast(tree, nothing);
        }

        @Override
        public Void visitWhileLoop(WhileLoopTree tree, Void nothing) {
            breaks(tree, "rule 9: a loop without a counter");
            return super.visitWhileLoop(tree, nothing);
        }

        @Override
        public Void visitTry(TryTree tree, Void nothing) {
            breaks(tree, "rule 6: a try");
            return super.visitTry(tree, nothing);
        }

        @Override
        public Void visitCatch(CatchTree tree, Void nothing) {
            breaks(tree, "rule 6: a catch");
            return super.visitCatch(tree, nothing);
        }

        @Override
        public Void visitLambdaExpression(LambdaExpressionTree tree, Void nothing) {
            breaks(tree, "rule 2: a lambda");
            return super.visitLambdaExpression(tree, nothing);
        }

        @Override
        public Void visitMemberReference(MemberReferenceTree tree, Void nothing) {
            breaks(tree, "rule 2: a method reference");
            return super.visitMemberReference(tree, nothing);
        }

        @Override
        public Void visitSynchronized(SynchronizedTree tree, Void nothing) {
            breaks(tree, "rule 6: synchronized");
            return super.visitSynchronized(tree, nothing);
        }

        @Override
        public Void visitAssert(AssertTree tree, Void nothing) {
            breaks(tree, "rule 6: assert");
            return super.visitAssert(tree, nothing);
        }
    }
}
