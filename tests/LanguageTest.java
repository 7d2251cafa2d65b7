import com.sun.source.tree.*;
import com.sun.source.util.JavacTask;
import com.sun.source.util.SourcePositions;
import com.sun.source.util.TreePath;
import com.sun.source.util.TreePathScanner;
import com.sun.source.util.Trees;
import java.io.File;
import java.io.IOException;
import java.nio.file.Files;
import java.util.HashMap;
import java.util.HashSet;
import java.util.List;
import java.util.Map;
import java.util.Set;
import javax.lang.model.element.Element;
import javax.lang.model.element.ElementKind;
import javax.lang.model.element.Modifier;
import javax.tools.JavaCompiler;
import javax.tools.StandardJavaFileManager;
import javax.tools.ToolProvider;

/** Looks for what LANGUAGE.md rules out in the program's source, by the compiler's own tree of it. */
public final class LanguageTest {
    private static final Map<String, Set<String>> LIBRARY = Map.of(
            "java.util.ArrayList", Set.of("<init>", "add", "get", "set", "remove", "size", "isEmpty", "clear"),
            "java.lang.Integer", Set.of("bitCount", "numberOfTrailingZeros", "lowestOneBit", "compare"),
            "java.lang.Math", Set.of("abs", "min", "max"),
            "java.lang.System", Set.of("arraycopy"),
            "java.lang.Object", Set.of("<init>"));
    private static final Set<String> EXCEPTIONS = Set.of("IllegalStateException", "IllegalArgumentException",
            "IndexOutOfBoundsException", "ArithmeticException", "UnsupportedOperationException",
            "NoSuchElementException", "RuntimeException");
    private static final Set<Tree.Kind> RULED_OUT = Set.of(Tree.Kind.LAMBDA_EXPRESSION, Tree.Kind.MEMBER_REFERENCE,
            Tree.Kind.TRY, Tree.Kind.SYNCHRONIZED, Tree.Kind.ASSERT, Tree.Kind.SWITCH_EXPRESSION,
            Tree.Kind.ANNOTATION, Tree.Kind.DIVIDE, Tree.Kind.REMAINDER, Tree.Kind.TYPE_CAST);

    private static final int MOST_DEPTH = 8;

    private static final Check check = new Check("LanguageTest");

    public static void main(String[] args) throws IOException {
        File file = new File(System.getProperty("placecard.source", "src/main/java/Placecard.java"));
        for (char sign : Files.readString(file.toPath()).toCharArray()) {
            if (sign > 127 || sign == '\t') {
                check.due("a sign of the source", (int) sign, "1 to 127, no tab");
            }
        }
        JavaCompiler compiler = ToolProvider.getSystemJavaCompiler();
        try (StandardJavaFileManager files = compiler.getStandardFileManager(null, null, null)) {
            JavacTask task = (JavacTask) compiler.getTask(null, files, null, List.of("-proc:none"), null,
                    files.getJavaFileObjects(file));
            CompilationUnitTree unit = task.parse().iterator().next();
            task.analyze();
            check.due("a package line", unit.getPackageName() == null, true);
            check.due("classes on the top", unit.getTypeDecls().size(), 1);
            Scanner scanner = new Scanner(unit, Trees.instance(task));
            scanner.scan(unit, null);
            for (Element method : scanner.calls.keySet()) {
                check.due("rule 11: calls below " + method + " go at most eight deep",
                        depthOf(scanner.calls, method, 1) <= MOST_DEPTH, true);
            }
        }
        check.end();
    }

    /** How deep calls go, a method that calls itself aside; some that called one another would go beyond any bound. */
    private static int depthOf(Map<Element, Set<Element>> calls, Element method, int depth) {
        int most = depth;
        for (Element callee : calls.getOrDefault(method, Set.of())) {
            if (callee != method && depth <= MOST_DEPTH) {
                most = Math.max(most, depthOf(calls, callee, depth + 1));
            }
        }
        return most;
    }

    private static final class Scanner extends TreePathScanner<Void, Void> {
        private final CompilationUnitTree unit;
        private final Trees trees;
        final Map<Element, Set<Element>> calls = new HashMap<>();
        private Element method;
        private int classes;

        Scanner(CompilationUnitTree unit, Trees trees) {
            this.unit = unit;
            this.trees = trees;
        }

        private long line(Tree tree) {
            return unit.getLineMap().getLineNumber(trees.getSourcePositions().getStartPosition(unit, tree));
        }

        private void ruled(Tree tree, String rule, boolean isKept) {
            check.due("line " + line(tree) + ": " + rule, isKept, true);
        }

        @Override
        public Void scan(Tree tree, Void nothing) {
            if (tree != null) {
                // A cast or a division would need a test before it; there are few, so each is looked at by hand.
                boolean isFigure = tree.getKind() == Tree.Kind.DIVIDE || tree.getKind() == Tree.Kind.TYPE_CAST;
                if (RULED_OUT.contains(tree.getKind()) && !(isFigure && isOfFigures())) {
                    ruled(tree, tree.getKind() + " is ruled out", false);
                }
            }
            return super.scan(tree, nothing);
        }

        private boolean isOfFigures() {
            for (TreePath path = getCurrentPath(); path != null; path = path.getParentPath()) {
                if (path.getLeaf() instanceof MethodTree) {
                    String name = ((MethodTree) path.getLeaf()).getName().toString();
                    return name.equals("seatedShare") || name.equals("meanRank");
                }
            }
            return false;
        }

        @Override
        public Void visitClass(ClassTree tree, Void nothing) {
            classes++;
            ruled(tree, "rule 11: at most twelve classes", classes <= 12);
            long fields = tree.getMembers().stream().filter(m -> m instanceof VariableTree)
                    .filter(m -> !((VariableTree) m).getModifiers().getFlags().contains(Modifier.STATIC)).count();
            ruled(tree, "rule 11: at most twenty fields", fields <= 20);
            return super.visitClass(tree, nothing);
        }

        @Override
        public Void visitBlock(BlockTree tree, Void nothing) {
            boolean isInitialiser = getCurrentPath().getParentPath().getLeaf() instanceof ClassTree;
            ruled(tree, "rule 5: no initialiser block", !isInitialiser);
            return super.visitBlock(tree, nothing);
        }

        @Override
        public Void visitMethod(MethodTree tree, Void nothing) {
            SourcePositions positions = trees.getSourcePositions();
            long end = positions.getEndPosition(unit, tree);
            if (end >= 0) {
                long lines = unit.getLineMap().getLineNumber(end) - line(tree) + 1;
                ruled(tree, "rule 11: " + tree.getName() + " has at most sixty lines", lines <= 60);
            }
            ruled(tree, "rule 11: " + tree.getName() + " takes at most seven", tree.getParameters().size() <= 7);
            method = trees.getElement(getCurrentPath());
            calls.put(method, new HashSet<>());
            return super.visitMethod(tree, nothing);
        }

        @Override
        public Void visitImport(ImportTree tree, Void nothing) {
            String name = tree.getQualifiedIdentifier().toString();
            ruled(tree, "import " + name, Set.of("java.util.ArrayList", "java.util.NoSuchElementException").contains(name));
            return null;
        }

        @Override
        public Void visitThrow(ThrowTree tree, Void nothing) {
            ruled(tree, "rule 6: a new exception is thrown", tree.getExpression() instanceof NewClassTree);
            NewClassTree made = (NewClassTree) tree.getExpression();
            ruled(tree, "rule 6: one of the list", EXCEPTIONS.contains(made.getIdentifier().toString()));
            boolean isText = made.getArguments().size() == 1
                    && made.getArguments().get(0).getKind() == Tree.Kind.STRING_LITERAL;
            ruled(tree, "rule 6: with a written text or none", made.getArguments().isEmpty() || isText);
            for (TreePath path = getCurrentPath(); path != null; path = path.getParentPath()) {
                if (path.getLeaf() instanceof MethodTree) {
                    MethodTree method = (MethodTree) path.getLeaf();
                    ruled(tree, "rule 6: no throw in a constructor", method.getReturnType() != null);
                }
            }
            return null;
        }

        @Override
        public Void visitNewClass(NewClassTree tree, Void nothing) {
            called(tree);
            ruled(tree, "no class without a name", tree.getClassBody() == null);
            return super.visitNewClass(tree, nothing);
        }

        @Override
        public Void visitMethodInvocation(MethodInvocationTree tree, Void nothing) {
            called(tree);
            return super.visitMethodInvocation(tree, nothing);
        }

        private void called(Tree tree) {
            Element called = trees.getElement(getCurrentPath());
            String owner = called.getEnclosingElement().toString();
            if (!owner.startsWith("Placecard")) {
                String name = called.getSimpleName().toString();
                ruled(tree, "rule 4: " + owner + "." + name, LIBRARY.getOrDefault(owner, Set.of()).contains(name));
            } else if (method != null) {
                calls.get(method).add(called);
            }
        }

        @Override
        public Void visitMemberSelect(MemberSelectTree tree, Void nothing) {
            Element selected = trees.getElement(getCurrentPath());
            if (selected != null && selected.getKind() == ElementKind.FIELD) {
                String owner = selected.getEnclosingElement().toString();
                boolean isLength = selected.getSimpleName().contentEquals("length") && owner.equals("Array");
                ruled(tree, "rule 4: no constant of the library, " + tree, isLength || owner.startsWith("Placecard"));
            }
            return super.visitMemberSelect(tree, nothing);
        }

        @Override
        public Void visitVariable(VariableTree tree, Void nothing) {
            Set<Modifier> flags = tree.getModifiers().getFlags();
            if (flags.contains(Modifier.STATIC)) {
                ruled(tree, "rule 5: static " + tree.getName() + " is final", flags.contains(Modifier.FINAL));
            }
            String type = tree.getType() == null ? "var" : tree.getType().toString();
            ruled(tree, "rule 3: " + type, type.matches(
                    "(int|long|char|boolean)(\\[\\])?|int\\[\\]\\[\\]|(Table|Guest|Condition|Conditions|Orders|Quarrels)"
                    + "(\\[\\])?|ArrayList<(Table|Guest|Condition)>"));
            return super.visitVariable(tree, nothing);
        }
    }
}
