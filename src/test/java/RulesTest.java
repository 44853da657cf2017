import com.sun.source.tree.AssertTree;
import com.sun.source.tree.ClassTree;
import com.sun.source.tree.CompilationUnitTree;
import com.sun.source.tree.DoWhileLoopTree;
import com.sun.source.tree.ForLoopTree;
import com.sun.source.tree.LambdaExpressionTree;
import com.sun.source.tree.LineMap;
import com.sun.source.tree.MemberReferenceTree;
import com.sun.source.tree.MethodInvocationTree;
import com.sun.source.tree.MethodTree;
import com.sun.source.tree.NewClassTree;
import com.sun.source.tree.SynchronizedTree;
import com.sun.source.tree.ThrowTree;
import com.sun.source.tree.Tree;
import com.sun.source.tree.TryTree;
import com.sun.source.tree.TypeCastTree;
import com.sun.source.tree.VariableTree;
import com.sun.source.tree.WhileLoopTree;
import com.sun.source.util.JavacTask;
import com.sun.source.util.SourcePositions;
import com.sun.source.util.TreePath;
import com.sun.source.util.TreePathScanner;
import com.sun.source.util.Trees;
import java.io.File;
import java.util.ArrayList;
import java.util.Arrays;
import java.util.HashSet;
import java.util.LinkedHashMap;
import java.util.LinkedHashSet;
import java.util.List;
import java.util.Map;
import java.util.Set;
import java.util.TreeSet;
import javax.lang.model.element.Element;
import javax.lang.model.element.ElementKind;
import javax.lang.model.element.ExecutableElement;
import javax.lang.model.element.Modifier;
import javax.lang.model.type.TypeMirror;
import javax.tools.JavaCompiler;
import javax.tools.StandardJavaFileManager;
import javax.tools.ToolProvider;

/** Rules of LANGUAGE.md as the compiler sees the file: who calls whom, what of the library is used, of which types all is. */
public final class RulesTest {
    private static final Set<String> LIBRARY = new TreeSet<>(Arrays.asList(
        "java.lang.String.length", "java.lang.String.charAt", "java.lang.String.isEmpty", "java.lang.String.equals",
        "java.lang.String.indexOf", "java.lang.String.substring", "java.lang.String.toCharArray",
        "java.lang.Math.max", "java.lang.Math.min", "java.lang.Math.abs", "java.lang.Math.floorDiv", "java.lang.Math.floorMod",
        "java.lang.Integer.bitCount", "java.lang.Integer.compare", "java.lang.Integer.numberOfTrailingZeros",
        "java.lang.Long.bitCount", "java.lang.Long.compare", "java.lang.Long.numberOfTrailingZeros",
        "java.lang.System.arraycopy"));
    private static final Set<String> NUMBERS = new TreeSet<>(Arrays.asList("int", "long", "short", "byte", "char", "boolean"));
    private static final int DEEPEST = 8, LINES = 60, PARAMETERS = 7, CLASSES = 12, FIELDS = 20;

    private final Check c = new Check();
    private final Map<Element, Set<Element>> calls = new LinkedHashMap<>();
    private final Set<Element> own = new HashSet<>();
    private final Map<Element, Integer> depths = new LinkedHashMap<>();

    public static void main(String[] args) throws Exception {
        new RulesTest().look();
    }

    private void look() throws Exception {
        JavaCompiler compiler = ToolProvider.getSystemJavaCompiler();
        StandardJavaFileManager files = compiler.getStandardFileManager(null, null, null);
        JavacTask task = (JavacTask) compiler.getTask(null, files, null, List.of("-proc:none"), null,
            files.getJavaFileObjects(new File("src/main/java/AheadOfAFriend.java")));
        CompilationUnitTree unit = task.parse().iterator().next();
        task.analyze();
        Trees trees = Trees.instance(task);
        new Members(trees).scan(unit, null);
        new Words(trees, unit).scan(unit, null);
        depth();
        c.end();
    }

    /** First who is there, so that a call of one's own can be told from one of the library. */
    private final class Members extends TreePathScanner<Void, Void> {
        private final Trees trees;

        Members(Trees trees) {
            this.trees = trees;
        }

        @Override
        public Void visitMethod(MethodTree tree, Void v) {
            Element method = trees.getElement(getCurrentPath());
            own.add(method);
            calls.put(method, new LinkedHashSet<>());
            return super.visitMethod(tree, v);
        }

        @Override
        public Void visitClass(ClassTree tree, Void v) {
            own.add(trees.getElement(getCurrentPath()));
            return super.visitClass(tree, v);
        }
    }

    private final class Words extends TreePathScanner<Void, Void> {
        private final Trees trees;
        private final CompilationUnitTree unit;
        private Element within;
        private int classes;

        Words(Trees trees, CompilationUnitTree unit) {
            this.trees = trees;
            this.unit = unit;
        }

        private void never(String rule, Tree tree) {
            c.promise(rule);
            c.holds("not: " + tree, false);
        }

        @Override
        public Void visitClass(ClassTree tree, Void v) {
            c.promise("rules 2 and 11, classes");
            Element k = trees.getElement(getCurrentPath());
            classes++;
            c.holds("some twelve classes: " + k, classes <= CLASSES);
            c.holds("no local or anonymous class: " + k, within == null);
            c.holds("static inside: " + k, classes == 1 || k.getModifiers().contains(Modifier.STATIC));
            int fields = 0;
            for (Element member : k.getEnclosedElements()) {
                boolean shared = member.getModifiers().contains(Modifier.STATIC);
                fields += member.getKind() == ElementKind.FIELD && !shared ? 1 : 0;
                c.holds("no block: " + k, member.getKind() != ElementKind.STATIC_INIT && member.getKind() != ElementKind.INSTANCE_INIT);
            }
            c.holds("some twenty fields: " + k, fields <= FIELDS);
            return super.visitClass(tree, v);
        }

        @Override
        public Void visitMethod(MethodTree tree, Void v) {
            c.promise("rule 11, methods");
            SourcePositions places = trees.getSourcePositions();
            LineMap lines = unit.getLineMap();
            if (places.getEndPosition(unit, tree) > places.getStartPosition(unit, tree)) {
                long many = lines.getLineNumber(places.getEndPosition(unit, tree)) - lines.getLineNumber(places.getStartPosition(unit, tree)) + 1;
                c.holds("some sixty lines: " + tree.getName(), many <= LINES);
            }
            c.holds("seven parameters: " + tree.getName(), tree.getParameters().size() <= PARAMETERS);
            within = trees.getElement(getCurrentPath());
            super.visitMethod(tree, v);
            within = null;
            return null;
        }

        @Override
        public Void visitVariable(VariableTree tree, Void v) {
            c.promise("rules 3 and 5, types");
            Element e = trees.getElement(getCurrentPath());
            String type = e.asType().toString();
            String of = type.endsWith("[]") ? type.substring(0, type.length() - 2) : type;
            boolean ownType = of.startsWith("AheadOfAFriend.");
            c.holds(type + " " + e, NUMBERS.contains(of) || ownType || of.equals("java.lang.String"));
            if (e.getKind() == ElementKind.FIELD && e.getModifiers().contains(Modifier.STATIC)) {
                c.holds("static, so final: " + e, e.getModifiers().contains(Modifier.FINAL));
                c.holds("static, so a number or a row written out: " + e, !ownType && (of.equals(type) || tree.getInitializer().toString().contains("{")));
            }
            return super.visitVariable(tree, v);
        }

        @Override
        public Void visitMethodInvocation(MethodInvocationTree tree, Void v) {
            Element called = trees.getElement(new TreePath(getCurrentPath(), tree.getMethodSelect()));
            calledFromHere(called);
            if (!own.contains(called) && called.getKind() != ElementKind.CONSTRUCTOR) {
                c.promise("rule 4, the library");
                String name = called.getEnclosingElement() + "." + called.getSimpleName();
                c.holds(name, LIBRARY.contains(name));
            }
            return super.visitMethodInvocation(tree, v);
        }

        private void calledFromHere(Element called) {
            if (within != null && own.contains(called)) {
                calls.get(within).add(called);
            }
        }

        @Override
        public Void visitNewClass(NewClassTree tree, Void v) {
            c.promise("rule 4, what is made");
            Element made = trees.getElement(getCurrentPath());
            c.holds("of one's own: " + tree, own.contains(made.getEnclosingElement()));
            calledFromHere(made);
            return super.visitNewClass(tree, v);
        }

        @Override
        public Void visitTypeCast(TypeCastTree tree, Void v) {
            c.promise("rule 6, casts");
            TypeMirror to = trees.getTypeMirror(new TreePath(getCurrentPath(), tree.getType()));
            c.holds("among numbers: " + tree, NUMBERS.contains(to.toString()));
            return super.visitTypeCast(tree, v);
        }

        @Override
        public Void visitForLoop(ForLoopTree tree, Void v) {
            c.promise("rule 9, loops");
            c.holds("has a bound, and counts: " + tree, tree.getCondition() != null && tree.getUpdate().size() == 1);
            return super.visitForLoop(tree, v);
        }

        @Override
        public Void visitWhileLoop(WhileLoopTree tree, Void v) {
            never("rule 9, loops are counted here", tree);
            return super.visitWhileLoop(tree, v);
        }

        @Override
        public Void visitDoWhileLoop(DoWhileLoopTree tree, Void v) {
            never("rule 9, loops are counted here", tree);
            return super.visitDoWhileLoop(tree, v);
        }

        @Override
        public Void visitLambdaExpression(LambdaExpressionTree tree, Void v) {
            never("rule 2", tree);
            return super.visitLambdaExpression(tree, v);
        }

        @Override
        public Void visitMemberReference(MemberReferenceTree tree, Void v) {
            never("rule 2", tree);
            return super.visitMemberReference(tree, v);
        }

        @Override
        public Void visitThrow(ThrowTree tree, Void v) {
            never("rule 6", tree);
            return super.visitThrow(tree, v);
        }

        @Override
        public Void visitTry(TryTree tree, Void v) {
            never("rule 6", tree);
            return super.visitTry(tree, v);
        }

        @Override
        public Void visitSynchronized(SynchronizedTree tree, Void v) {
            never("rule 6", tree);
            return super.visitSynchronized(tree, v);
        }

        @Override
        public Void visitAssert(AssertTree tree, Void v) {
            never("rule 6", tree);
            return super.visitAssert(tree, v);
        }
    }

    private boolean reaches(Element from, Element to, Set<Element> seen) {
        for (Element next : calls.get(from)) {
            if (next.equals(to) || seen.add(next) && reaches(next, to, seen)) {
                return true;
            }
        }
        return false;
    }

    private boolean together(Element one, Element other) {
        return one.equals(other) || reaches(one, other, new HashSet<>()) && reaches(other, one, new HashSet<>());
    }

    /** How many calls stand open at most from here on; those that call one another are one. */
    private int depthOf(Element method) {
        Integer known = depths.get(method);
        if (known != null) {
            return known;
        }
        int deepest = 0;
        for (Element member : calls.keySet()) {
            if (!together(method, member)) {
                continue;
            }
            for (Element next : calls.get(member)) {
                deepest = together(method, next) ? deepest : Math.max(deepest, depthOf(next));
            }
        }
        depths.put(method, deepest + 1);
        return deepest + 1;
    }

    private void depth() {
        c.promise("rule 11, eight deep");
        List<String> recursive = new ArrayList<>();
        for (Element method : calls.keySet()) {
            c.holds(method + " opens " + depthOf(method) + " calls", depthOf(method) <= DEEPEST);
            if (reaches(method, method, new HashSet<>())) {
                recursive.add(((ExecutableElement) method).getSimpleName().toString());
            }
        }
        c.promise("rule 8, recursion");
        List<String> due = List.of("readOr", "readAnd", "readNot", "readCompared", "readSum", "readTerm", "readOne");
        c.holds("only a TEXT is read by recursion, which what may be open bounds: " + recursive, recursive.equals(due));
    }
}
