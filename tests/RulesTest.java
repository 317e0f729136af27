import com.sun.source.tree.AssertTree;
import com.sun.source.tree.BinaryTree;
import com.sun.source.tree.BlockTree;
import com.sun.source.tree.ClassTree;
import com.sun.source.tree.CompilationUnitTree;
import com.sun.source.tree.CompoundAssignmentTree;
import com.sun.source.tree.DoWhileLoopTree;
import com.sun.source.tree.ExpressionStatementTree;
import com.sun.source.tree.ExpressionTree;
import com.sun.source.tree.ForLoopTree;
import com.sun.source.tree.ImportTree;
import com.sun.source.tree.LambdaExpressionTree;
import com.sun.source.tree.LineMap;
import com.sun.source.tree.MemberReferenceTree;
import com.sun.source.tree.MethodInvocationTree;
import com.sun.source.tree.MethodTree;
import com.sun.source.tree.ModifiersTree;
import com.sun.source.tree.NewArrayTree;
import com.sun.source.tree.NewClassTree;
import com.sun.source.tree.ParenthesizedTree;
import com.sun.source.tree.StatementTree;
import com.sun.source.tree.SynchronizedTree;
import com.sun.source.tree.ThrowTree;
import com.sun.source.tree.Tree;
import com.sun.source.tree.TryTree;
import com.sun.source.tree.TypeCastTree;
import com.sun.source.tree.UnaryTree;
import com.sun.source.tree.VariableTree;
import com.sun.source.tree.WhileLoopTree;
import com.sun.source.util.JavacTask;
import com.sun.source.util.TreePath;
import com.sun.source.util.TreePathScanner;
import com.sun.source.util.Trees;
import java.io.IOException;
import java.nio.file.Files;
import java.nio.file.Path;
import java.util.ArrayList;
import java.util.Arrays;
import java.util.HashSet;
import java.util.List;
import java.util.Map;
import java.util.Set;
import java.util.TreeMap;
import java.util.TreeSet;
import javax.lang.model.element.Element;
import javax.lang.model.element.ElementKind;
import javax.lang.model.element.Modifier;
import javax.lang.model.type.TypeMirror;
import javax.tools.JavaCompiler;
import javax.tools.StandardJavaFileManager;
import javax.tools.ToolProvider;

/** The rules of LANGUAGE.md, by their numbers, seen in the class as the compiler reads it. */
public final class RulesTest {
    private static final Path SOURCE = Path.of("src/main/java/JumpRing.java");
    /** One less than rule 11 allows: it does not say whether the one who calls the class counts. */
    private static final int DEEPEST = 7;
    private static final int LONGEST = 60;
    private static final int MOST_PARAMETERS = 7;
    private static final int MOST_FIELDS = 20;
    private static final int MOST_CLASSES = 12;
    private static final Set<Modifier> MODIFIERS = Set.of(Modifier.PUBLIC, Modifier.PRIVATE, Modifier.STATIC,
            Modifier.FINAL);
    private static final Set<String> LIBRARY = Set.of("java.lang.String.length", "java.lang.String.charAt",
            "java.lang.String.isEmpty", "java.lang.Math.min", "java.lang.Math.max", "Array.clone");
    private static final Set<String> CONSTANT_TYPES = Set.of("int", "long", "boolean", "char", "java.lang.String",
            "int[]", "long[]", "char[]", "byte[]");
    /** Those that may make objects: what they make is kept, or is small and made once a call. */
    private static final Set<String> MAKERS = Set.of("JumpRing.course", "JumpRing.laws", "JumpRing.begin");

    public static void main(String[] args) throws IOException {
        Check t = new Check("RulesTest");
        String text = Files.readString(SOURCE);
        t.dueTrue("rule 4: plain signs", text.chars().allMatch(c -> c == '\n' || c >= 32 && c < 127));
        new Seen(t).readAll();
        t.close();
    }

    /** Walks through the class once and keeps which method calls which. */
    private static final class Seen extends TreePathScanner<Void, Void> {
        private final Check t;
        private Trees trees;
        private CompilationUnitTree unit;
        private LineMap lines;
        private String method = "";
        private int classes = 0;
        private final Map<String, Set<String>> calls = new TreeMap<>();

        Seen(Check t) {
            this.t = t;
        }

        void readAll() throws IOException {
            JavaCompiler compiler = ToolProvider.getSystemJavaCompiler();
            try (StandardJavaFileManager files = compiler.getStandardFileManager(null, null, null)) {
                JavacTask task = (JavacTask) compiler.getTask(null, files, null, List.of("-proc:none"), null,
                        files.getJavaFileObjects(SOURCE));
                unit = task.parse().iterator().next();
                task.analyze();
                trees = Trees.instance(task);
                lines = unit.getLineMap();
                t.dueTrue("no package", unit.getPackageName() == null);
                t.due("one public class", unit.getTypeDecls().size(), 1);
                scan(unit, null);
            }
            t.dueTrue("rule 11: " + classes + " classes", classes <= MOST_CLASSES);
            int deepest = 0;
            for (String each : calls.keySet()) {
                deepest = Math.max(deepest, depth(each, new ArrayList<>()));
            }
            t.dueTrue("calls were seen, " + deepest + " deep", deepest > 2);
        }

        /** How many methods stand open at most, from this one on. */
        private int depth(String from, List<String> open) {
            boolean again = open.contains(from);
            open.add(from);
            t.dueTrue("rule 8: no recursion: " + open, !again);
            int below = 0;
            for (String next : again ? Set.<String>of() : calls.getOrDefault(from, Set.of())) {
                below = Math.max(below, depth(next, open));
            }
            t.dueTrue("rule 11: calls: " + open, open.size() <= DEEPEST);
            open.remove(open.size() - 1);
            return 1 + below;
        }

        private String at(Tree tree) {
            long line = lines.getLineNumber(trees.getSourcePositions().getStartPosition(unit, tree));
            return " at line " + line;
        }

        private Element elementOf(Tree tree) {
            return trees.getElement(new TreePath(getCurrentPath(), tree));
        }

        private String typeOf(Tree tree) {
            TypeMirror type = trees.getTypeMirror(new TreePath(getCurrentPath(), tree));
            return type == null ? "" : type.toString();
        }

        private Void banned(String rule, Tree tree) {
            t.dueTrue(rule + at(tree), false);
            return null;
        }

        @Override
        public Void visitClass(ClassTree tree, Void none) {
            classes++;
            Element own = trees.getElement(getCurrentPath());
            boolean inside = own.getEnclosingElement().getKind() == ElementKind.CLASS;
            boolean outer = own.getEnclosingElement().getKind() == ElementKind.PACKAGE;
            t.dueTrue("rule 2: " + own + " is no local class", inside || outer);
            t.dueTrue("rule 2: " + own + " is static", outer || own.getModifiers().contains(Modifier.STATIC));
            int fields = 0;
            for (Tree member : tree.getMembers()) {
                boolean isField = member instanceof VariableTree field
                        && !field.getModifiers().getFlags().contains(Modifier.STATIC);
                fields += isField ? 1 : 0;
                t.dueTrue("rule 5: no block of a class" + at(member), !(member instanceof BlockTree));
            }
            t.dueTrue("rule 11: fields of " + own, fields <= MOST_FIELDS);
            return super.visitClass(tree, none);
        }

        @Override
        public Void visitModifiers(ModifiersTree tree, Void none) {
            t.dueTrue("rules 1, 6: modifiers" + at(tree), MODIFIERS.containsAll(tree.getFlags())
                    && tree.getAnnotations().isEmpty());
            return super.visitModifiers(tree, none);
        }

        @Override
        public Void visitVariable(VariableTree tree, Void none) {
            Set<Modifier> flags = tree.getModifiers().getFlags();
            if (flags.contains(Modifier.STATIC)) {
                t.dueTrue("rule 5: final" + at(tree), flags.contains(Modifier.FINAL));
                t.dueTrue("rule 5: type" + at(tree), CONSTANT_TYPES.contains(typeOf(tree.getType())));
            }
            return super.visitVariable(tree, none);
        }

        @Override
        public Void visitMethod(MethodTree tree, Void none) {
            Element own = trees.getElement(getCurrentPath());
            method = nameOf(own);
            calls.putIfAbsent(method, new TreeSet<>());
            long from = trees.getSourcePositions().getStartPosition(unit, tree);
            long to = trees.getSourcePositions().getEndPosition(unit, tree);
            long many = to < 0 ? 0 : lines.getLineNumber(to) - lines.getLineNumber(from) + 1;
            t.dueTrue("rule 11: " + method + " has " + many + " lines", many <= LONGEST);
            t.dueTrue("rule 11: parameters of " + method, tree.getParameters().size() <= MOST_PARAMETERS);
            t.dueTrue("rule 6: no own " + method, !Set.of("equals", "hashCode", "toString").contains(
                    own.getSimpleName().toString()));
            super.visitMethod(tree, none);
            method = "";
            return null;
        }

        private static String nameOf(Element element) {
            return element.getEnclosingElement() + "." + element.getSimpleName();
        }

        @Override
        public Void visitMethodInvocation(MethodInvocationTree tree, Void none) {
            String called = nameOf(elementOf(tree.getMethodSelect()));
            boolean ownOne = called.startsWith("JumpRing");
            if (ownOne && !method.isEmpty()) {
                calls.get(method).add(called);
            }
            boolean makesNothing = called.equals("java.lang.Object.<init>");
            t.dueTrue("rule 4: " + called + at(tree), ownOne || makesNothing || LIBRARY.contains(called));
            return super.visitMethodInvocation(tree, none);
        }

        private void making(Tree tree) {
            boolean first = method.isEmpty() || method.endsWith(".<init>");
            t.dueTrue("rule 12: made in " + method + at(tree), first || MAKERS.contains(method));
        }

        @Override
        public Void visitNewClass(NewClassTree tree, Void none) {
            making(tree);
            t.dueTrue("rule 2: no class without a name" + at(tree), tree.getClassBody() == null);
            t.dueTrue("rule 4: an own class" + at(tree), typeOf(tree).startsWith("JumpRing"));
            return super.visitNewClass(tree, none);
        }

        @Override
        public Void visitNewArray(NewArrayTree tree, Void none) {
            making(tree);
            t.dueTrue("rule 3: one dimension" + at(tree), tree.getDimensions().size() < 2);
            return super.visitNewArray(tree, none);
        }

        @Override
        public Void visitBinary(BinaryTree tree, Void none) {
            boolean texts = typeOf(tree.getLeftOperand()).equals("java.lang.String")
                    || typeOf(tree.getRightOperand()).equals("java.lang.String");
            t.dueTrue("rules 6, 10: no operator between texts" + at(tree), !texts);
            return super.visitBinary(tree, none);
        }

        @Override
        public Void visitTypeCast(TypeCastTree tree, Void none) {
            t.dueTrue("rule 6: casts of numbers alone" + at(tree), Set.of("int", "long", "byte").contains(typeOf(tree)));
            return super.visitTypeCast(tree, none);
        }

        @Override
        public Void visitForLoop(ForLoopTree tree, Void none) {
            counted(tree, tree.getCondition(), tree.getUpdate());
            return super.visitForLoop(tree, none);
        }

        @Override
        public Void visitWhileLoop(WhileLoopTree tree, Void none) {
            List<StatementTree> body = new ArrayList<>();
            if (tree.getStatement() instanceof BlockTree block) {
                body.addAll(block.getStatements());
            }
            counted(tree, tree.getCondition(), body);
            return super.visitWhileLoop(tree, none);
        }

        /** A counter is held against a bound and goes on in every turn, whatever the turn does. */
        private void counted(Tree loop, ExpressionTree condition, List<? extends Tree> everyTurn) {
            Set<String> compared = new HashSet<>();
            compared(condition, compared);
            boolean goesOn = false;
            for (Tree step : everyTurn) {
                goesOn = goesOn || compared.contains(stepped(step));
            }
            t.dueTrue("rule 9: a counter against a bound" + at(loop), goesOn);
        }

        private static void compared(Tree condition, Set<String> into) {
            if (condition instanceof ParenthesizedTree inner) {
                compared(inner.getExpression(), into);
            } else if (condition instanceof BinaryTree both) {
                if (both.getKind() == Tree.Kind.CONDITIONAL_AND) {
                    compared(both.getLeftOperand(), into);
                    compared(both.getRightOperand(), into);
                } else if (Arrays.asList(Tree.Kind.LESS_THAN, Tree.Kind.LESS_THAN_EQUAL,
                        Tree.Kind.GREATER_THAN_EQUAL, Tree.Kind.GREATER_THAN).contains(both.getKind())) {
                    into.add(both.getLeftOperand().toString());
                }
            }
        }

        private static String stepped(Tree step) {
            Tree bare = step instanceof ExpressionStatementTree statement
                    ? statement.getExpression() : step;
            if (bare instanceof UnaryTree one) {
                return one.getExpression().toString();
            }
            return bare instanceof CompoundAssignmentTree more ? more.getVariable().toString() : "";
        }

        @Override
        public Void visitDoWhileLoop(DoWhileLoopTree tree, Void none) {
            return banned("rule 9: the class has no do", tree);
        }

        @Override
        public Void visitLambdaExpression(LambdaExpressionTree tree, Void none) {
            return banned("rule 2: lambda", tree);
        }

        @Override
        public Void visitMemberReference(MemberReferenceTree tree, Void none) {
            return banned("rule 2: method reference", tree);
        }

        @Override
        public Void visitImport(ImportTree tree, Void none) {
            return banned("rule 4: the class needs no import", tree);
        }

        @Override
        public Void visitThrow(ThrowTree tree, Void none) {
            return banned("rule 6: throw", tree);
        }

        @Override
        public Void visitTry(TryTree tree, Void none) {
            return banned("rule 6: try", tree);
        }

        @Override
        public Void visitSynchronized(SynchronizedTree tree, Void none) {
            return banned("rule 6: synchronized", tree);
        }

        @Override
        public Void visitAssert(AssertTree tree, Void none) {
            return banned("rule 6: assert", tree);
        }
    }
}
