import com.sun.source.tree.AssertTree;
import com.sun.source.tree.BinaryTree;
import com.sun.source.tree.ClassTree;
import com.sun.source.tree.CompilationUnitTree;
import com.sun.source.tree.ImportTree;
import com.sun.source.tree.LambdaExpressionTree;
import com.sun.source.tree.MemberReferenceTree;
import com.sun.source.tree.MethodInvocationTree;
import com.sun.source.tree.MethodTree;
import com.sun.source.tree.NewClassTree;
import com.sun.source.tree.SynchronizedTree;
import com.sun.source.tree.ThrowTree;
import com.sun.source.tree.Tree;
import com.sun.source.tree.TryTree;
import com.sun.source.tree.VariableTree;
import com.sun.source.util.JavacTask;
import com.sun.source.util.TreePath;
import com.sun.source.util.TreePathScanner;
import com.sun.source.util.Trees;
import java.io.File;
import java.lang.reflect.Constructor;
import java.lang.reflect.Field;
import java.lang.reflect.Method;
import java.lang.reflect.Modifier;
import java.util.Arrays;
import java.util.HashMap;
import java.util.HashSet;
import java.util.LinkedHashMap;
import java.util.LinkedHashSet;
import java.util.Map;
import java.util.Set;
import java.util.TreeSet;
import javax.lang.model.element.Element;
import javax.lang.model.element.ElementKind;
import javax.lang.model.element.NestingKind;
import javax.lang.model.element.TypeElement;
import javax.tools.JavaCompiler;
import javax.tools.StandardJavaFileManager;
import javax.tools.ToolProvider;

/** That the program keeps to the rules of LANGUAGE.md, as far as a program can see that. */
public final class LanguageTest {
    private static final String SOURCE = "src/main/java/PlanningHouse.java";
    private static final String FACE = "type cut spoil tapeAt problem fault drop count find letter shown range rule fact "
        + "change value put pin weigh broken aim score feasible reach isLeft hopeless solve best bests bestAt feasibles "
        + "feasibleAt has choices mend front frontAt frontPlan near clash fewest relax without whyNot because future told "
        + "unfold robust expected regret search searched check prove above below save load rows size byteAt crash take bring";
    private static final Set<String> LIBRARY = new HashSet<>(Arrays.asList("Math.max", "Math.min", "Math.abs",
        "Integer.bitCount", "Long.compare", "Arrays.fill", "Arrays.copyOf", "System.arraycopy", "String.charAt",
        "String.length", "String.indexOf", "Object.<init>"));

    private static int wrong = 0;

    private static void rule(int number, boolean holds, String what) {
        if (!holds) {
            wrong++;
            System.out.println("rule " + number + ": " + what);
        }
    }

    public static void main(String[] args) throws Exception {
        face();
        JavaCompiler compiler = ToolProvider.getSystemJavaCompiler();
        StandardJavaFileManager files = compiler.getStandardFileManager(null, null, null);
        JavacTask task = (JavacTask) compiler.getTask(null, files, null, Arrays.asList("-proc:none"), null,
            files.getJavaFileObjects(new File(SOURCE)));
        CompilationUnitTree unit = task.parse().iterator().next();
        task.analyze();
        Look look = new Look(Trees.instance(task), unit);
        look.scan(unit, null);
        rule(0, unit.getPackage() == null, "a package line");
        for (ImportTree i : unit.getImports()) {
            rule(4, i.getQualifiedIdentifier().toString().equals("java.util.Arrays"), "imports " + i);
        }
        rule(11, look.classes <= 12, look.classes + " classes");
        int deep = 0;
        for (String m : look.calls.keySet()) {
            deep = Math.max(deep, look.depth(m));
        }
        rule(11, deep <= 8, "calls go " + deep + " deep: " + look.deepest);
        System.out.println(wrong == 0 ? "the language is kept" : wrong + " rules are not kept");
        if (wrong != 0) {
            System.exit(1);
        }
    }

    private static void face() {
        Set<String> names = new TreeSet<>(Arrays.asList(FACE.split(" ")));
        Set<String> met = new TreeSet<>();
        for (Method m : PlanningHouse.class.getDeclaredMethods()) {
            if (Modifier.isPublic(m.getModifiers())) {
                met.add(m.getName());
                rule(1, !Modifier.isStatic(m.getModifiers()), m + " is static");
            } else {
                rule(1, Modifier.isPrivate(m.getModifiers()), m + " is not private");
                rule(1, !names.contains(m.getName()), m + " bears the name of a public one");
            }
        }
        rule(1, met.equals(names), "the public methods are " + met);
        for (Field f : PlanningHouse.class.getDeclaredFields()) {
            boolean constant = Arrays.asList("NONE", "NO", "FULL").contains(f.getName());
            rule(1, constant ? Modifier.isPublic(f.getModifiers()) : Modifier.isPrivate(f.getModifiers()), "field " + f);
        }
        for (Constructor<?> c : PlanningHouse.class.getDeclaredConstructors()) {
            rule(1, Modifier.isPublic(c.getModifiers()) && c.getParameterCount() == 0, "constructor " + c);
        }
        rule(1, Modifier.isFinal(PlanningHouse.class.getModifiers()), "the class is not final");
        for (Class<?> c : PlanningHouse.class.getDeclaredClasses()) {
            for (Method m : c.getDeclaredMethods()) {
                rule(1, !names.contains(m.getName()), m + " bears the name of a public one");
            }
        }
    }

    /** Looks at all of the source, and notes which method calls which. */
    private static final class Look extends TreePathScanner<Void, Void> {
        private final Trees trees;
        private final CompilationUnitTree unit;
        private final Map<String, Set<String>> calls = new LinkedHashMap<>();
        private final Map<String, Integer> depths = new HashMap<>();
        private String deepest = "";
        private String method = "";
        private int classes;

        Look(Trees trees, CompilationUnitTree unit) {
            this.trees = trees;
            this.unit = unit;
        }

        private long line(Tree t, boolean end) {
            long at = end ? trees.getSourcePositions().getEndPosition(unit, t)
                : trees.getSourcePositions().getStartPosition(unit, t);
            return unit.getLineMap().getLineNumber(at);
        }

        @Override
        public Void visitClass(ClassTree c, Void v) {
            classes++;
            TypeElement e = (TypeElement) trees.getElement(getCurrentPath());
            rule(2, e.getNestingKind() == NestingKind.TOP_LEVEL || e.getNestingKind() == NestingKind.MEMBER, c + " is local");
            boolean top = e.getNestingKind() == NestingKind.TOP_LEVEL;
            rule(2, top || c.getModifiers().getFlags().contains(javax.lang.model.element.Modifier.STATIC),
                c.getSimpleName() + " is not static");
            int fields = 0;
            for (Tree m : c.getMembers()) {
                boolean field = m instanceof VariableTree;
                fields += field && !((VariableTree) m).getModifiers().getFlags()
                    .contains(javax.lang.model.element.Modifier.STATIC) ? 1 : 0;
                rule(5, m.getKind() != Tree.Kind.BLOCK, "an initialiser block");
            }
            rule(11, fields <= 20, c.getSimpleName() + " has " + fields + " fields");
            return super.visitClass(c, v);
        }

        @Override
        public Void visitVariable(VariableTree x, Void v) {
            Set<javax.lang.model.element.Modifier> flags = x.getModifiers().getFlags();
            boolean isStatic = flags.contains(javax.lang.model.element.Modifier.STATIC);
            rule(5, !isStatic || flags.contains(javax.lang.model.element.Modifier.FINAL), x + " is not final");
            return super.visitVariable(x, v);
        }

        @Override
        public Void visitMethod(MethodTree m, Void v) {
            rule(11, m.getParameters().size() <= 7, m.getName() + " has too many parameters");
            long lines = line(m, true) - line(m, false) + 1;
            rule(11, lines <= 60, m.getName() + " has " + lines + " lines");
            String was = method;
            method = name(trees.getElement(getCurrentPath()));
            calls.computeIfAbsent(method, k -> new LinkedHashSet<>());
            super.visitMethod(m, v);
            method = was;
            return null;
        }

        private static String name(Element e) {
            return e.getEnclosingElement().getSimpleName() + "." + e.getSimpleName();
        }

        private void called(TreePath path) {
            Element e = trees.getElement(path);
            Element owner = e.getEnclosingElement();
            boolean own = owner.toString().startsWith("PlanningHouse");
            if (own) {
                calls.computeIfAbsent(method, k -> new LinkedHashSet<>()).add(name(e));
            } else {
                rule(4, LIBRARY.contains(name(e)), method + " calls " + name(e));
            }
        }

        @Override
        public Void visitMethodInvocation(MethodInvocationTree m, Void v) {
            called(new TreePath(getCurrentPath(), m.getMethodSelect()));
            return super.visitMethodInvocation(m, v);
        }

        @Override
        public Void visitNewClass(NewClassTree n, Void v) {
            rule(2, n.getClassBody() == null, "an anonymous class");
            called(getCurrentPath());
            return super.visitNewClass(n, v);
        }

        @Override
        public Void visitBinary(BinaryTree b, Void v) {
            String type = trees.getTypeMirror(getCurrentPath()).toString();
            rule(10, !type.equals("java.lang.String"), "texts are joined by + in " + method);
            return super.visitBinary(b, v);
        }

        @Override
        public Void visitThrow(ThrowTree t, Void v) {
            rule(6, false, "throw in " + method);
            return super.visitThrow(t, v);
        }

        @Override
        public Void visitTry(TryTree t, Void v) {
            rule(6, false, "try in " + method);
            return super.visitTry(t, v);
        }

        @Override
        public Void visitSynchronized(SynchronizedTree t, Void v) {
            rule(6, false, "synchronized in " + method);
            return super.visitSynchronized(t, v);
        }

        @Override
        public Void visitAssert(AssertTree t, Void v) {
            rule(6, false, "assert in " + method);
            return super.visitAssert(t, v);
        }

        @Override
        public Void visitLambdaExpression(LambdaExpressionTree t, Void v) {
            rule(2, false, "a lambda in " + method);
            return super.visitLambdaExpression(t, v);
        }

        @Override
        public Void visitMemberReference(MemberReferenceTree t, Void v) {
            rule(2, false, "a method reference in " + method);
            return super.visitMemberReference(t, v);
        }

        private Set<String> reachable(String from) {
            Set<String> out = new LinkedHashSet<>();
            java.util.ArrayDeque<String> open = new java.util.ArrayDeque<>(calls.getOrDefault(from, Set.of()));
            while (!open.isEmpty()) {
                String m = open.pop();
                if (out.add(m)) {
                    open.addAll(calls.getOrDefault(m, Set.of()));
                }
            }
            return out;
        }

        /** How deep calls go from a method on; methods that call one another in a round are one level. */
        private int depth(String m) {
            Integer known = depths.get(m);
            if (known != null) {
                return known;
            }
            Set<String> round = new LinkedHashSet<>();
            round.add(m);
            for (String x : reachable(m)) {
                if (reachable(x).contains(m)) {
                    round.add(x);
                }
            }
            int deep = 0;
            for (String x : round) {
                for (String y : calls.getOrDefault(x, Set.of())) {
                    if (!round.contains(y)) {
                        deep = Math.max(deep, depth(y));
                    }
                }
            }
            depths.put(m, deep + 1);
            if (deep + 1 > 8) {
                deepest += " " + m;
            }
            return deep + 1;
        }
    }

    private LanguageTest() {
    }
}
