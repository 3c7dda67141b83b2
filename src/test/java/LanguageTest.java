import com.sun.source.tree.AssertTree;
import com.sun.source.tree.BinaryTree;
import com.sun.source.tree.ClassTree;
import com.sun.source.tree.CompilationUnitTree;
import com.sun.source.tree.ImportTree;
import com.sun.source.tree.LambdaExpressionTree;
import com.sun.source.tree.MemberReferenceTree;
import com.sun.source.tree.MethodInvocationTree;
import com.sun.source.tree.MethodTree;
import com.sun.source.tree.NewClassTree;
import com.sun.source.tree.SynchronizedTree;
import com.sun.source.tree.ThrowTree;
import com.sun.source.tree.Tree;
import com.sun.source.tree.TryTree;
import com.sun.source.tree.VariableTree;
import com.sun.source.util.JavacTask;
import com.sun.source.util.TreePathScanner;
import com.sun.source.util.Trees;
import java.io.IOException;
import java.lang.management.ManagementFactory;
import java.lang.reflect.InvocationTargetException;
import java.lang.reflect.Method;
import java.lang.reflect.Modifier;
import java.nio.file.Files;
import java.nio.file.Path;
import java.util.ArrayList;
import java.util.Arrays;
import java.util.HashSet;
import java.util.List;
import java.util.Map;
import java.util.Random;
import java.util.Set;
import java.util.TreeMap;
import java.util.TreeSet;
import javax.lang.model.element.Element;
import javax.tools.JavaCompiler;
import javax.tools.StandardJavaFileManager;
import javax.tools.ToolProvider;

/** The face against the document, rules of LANGUAGE.md that can be seen in the source, and that no call throws or makes objects. */
public final class LanguageTest {
    private static final Path SOURCE = Path.of("src/main/java/ForestOfPoles.java");
    private static final Path DOC = Path.of("../shared/DOC.md");
    private static final Set<String> LIBRARY = Set.of("java.lang.Math.max(int,int)", "java.lang.Math.min(int,int)",
        "java.lang.Math.max(long,long)", "java.lang.Math.min(long,long)", "java.lang.Math.abs(int)", "java.lang.Integer.bitCount(int)",
        "java.lang.System.arraycopy(java.lang.Object,int,java.lang.Object,int,int)", "java.lang.String.length()",
        "java.lang.String.charAt(int)", "java.lang.Object.Object()");
    private static int wrong = 0;

    public static void main(String[] args) throws Exception {
        face();
        source();
        storm();
        room();
        System.out.println(wrong == 0 ? "the language is kept to" : wrong + " rules are not kept to");
        if (wrong != 0) {
            System.exit(1);
        }
    }

    private static void fail(String what) {
        wrong++;
        System.out.println(what);
    }

    private static void face() throws IOException {
        Set<String> due = new TreeSet<>();
        String doc = Files.readString(DOC);
        String block = doc.substring(doc.indexOf("public final class"), doc.indexOf("## Terms"));
        for (String line : block.split("\n")) {
            String face = line.trim().replace("public ", "");
            if (line.startsWith("    public") && face.contains("(") && !face.startsWith("ForestOfPoles(")) {
                due.add(face.replaceAll("(int|boolean|long) \\w+([,)])", "$1$2").replace(";", "").replace(", ", ","));
            }
        }
        Set<String> got = new TreeSet<>();
        for (Method m : ForestOfPoles.class.getDeclaredMethods()) {
            String types = String.join(",", Arrays.stream(m.getParameterTypes()).map(Class::getName).toList());
            if (Modifier.isPublic(m.getModifiers())) {
                got.add(m.getReturnType().getName() + " " + m.getName() + "(" + types + ")");
            } else if (!Modifier.isPrivate(m.getModifiers()) && !m.isSynthetic()) {
                fail("rule 1: " + m + " can be seen");
            }
        }
        if (due.size() != 44 || !due.equals(got)) {
            fail("rule 1: the face is " + got + ", due is " + due);
        }
        for (java.lang.reflect.Field f : ForestOfPoles.class.getDeclaredFields()) {
            if (!Modifier.isPrivate(f.getModifiers()) && !f.getName().equals("NONE")) {
                fail("rule 1: " + f + " can be seen");
            }
        }
        if (!Modifier.isFinal(ForestOfPoles.class.getModifiers()) || ForestOfPoles.class.getDeclaredConstructors().length != 1) {
            fail("rule 1: not final, or not one constructor");
        }
    }

    private static void source() throws IOException {
        String text = Files.readString(SOURCE);
        if (text.chars().anyMatch(c -> c > 126 || c < 32 && c != '\n')) {
            fail("a sign outside 32 .. 126");
        }
        JavaCompiler compiler = ToolProvider.getSystemJavaCompiler();
        try (StandardJavaFileManager files = compiler.getStandardFileManager(null, null, null)) {
            JavacTask task = (JavacTask) compiler.getTask(null, files, null, List.of("-proc:none"), null, files.getJavaFileObjects(SOURCE));
            Rules rules = new Rules(Trees.instance(task));
            for (CompilationUnitTree unit : task.parse()) {
                rules.unit = unit;
                task.analyze();
                rules.scan(unit, null);
            }
            rules.finish();
        }
    }

    private static final class Rules extends TreePathScanner<Void, Void> {
        final Trees trees;
        CompilationUnitTree unit;
        int classes = 0;
        String method = "";
        final Set<String> publicNames = new HashSet<>();
        final Set<String> otherNames = new HashSet<>();
        final Map<String, Set<String>> calls = new TreeMap<>();

        Rules(Trees trees) {
            this.trees = trees;
        }

        long line(long position) {
            return unit.getLineMap().getLineNumber(position);
        }

        long start(Tree tree) {
            return line(trees.getSourcePositions().getStartPosition(unit, tree));
        }

        Void bad(int rule, Tree tree) {
            fail("rule " + rule + ", line " + start(tree) + ": " + tree.getKind());
            return null;
        }

        @Override
        public Void visitClass(ClassTree tree, Void v) {
            classes++;
            boolean outer = tree.getSimpleName().contentEquals("ForestOfPoles");
            if (!outer && !tree.getModifiers().getFlags().contains(javax.lang.model.element.Modifier.STATIC)) {
                bad(2, tree);
            }
            long fields = tree.getMembers().stream().filter(m -> m instanceof VariableTree f
                && !f.getModifiers().getFlags().contains(javax.lang.model.element.Modifier.STATIC)).count();
            if (fields > 20) {
                bad(11, tree);
            }
            for (Tree m : tree.getMembers()) {
                if (m.getKind() == Tree.Kind.BLOCK) {
                    bad(5, m);
                }
                Set<javax.lang.model.element.Modifier> flags = m instanceof VariableTree f ? f.getModifiers().getFlags() : Set.of();
                if (flags.contains(javax.lang.model.element.Modifier.STATIC) && !flags.contains(javax.lang.model.element.Modifier.FINAL)) {
                    bad(5, m);
                }
            }
            return super.visitClass(tree, v);
        }

        @Override
        public Void visitMethod(MethodTree tree, Void v) {
            Element element = trees.getElement(getCurrentPath());
            method = element.getEnclosingElement() + "." + element;
            calls.putIfAbsent(method, new TreeSet<>());
            boolean isPublic = tree.getModifiers().getFlags().contains(javax.lang.model.element.Modifier.PUBLIC);
            (isPublic ? publicNames : otherNames).add(tree.getName().toString());
            if (tree.getParameters().size() > 7) {
                bad(11, tree);
            }
            if (line(trees.getSourcePositions().getEndPosition(unit, tree)) - start(tree) >= 60) {
                bad(11, tree);
            }
            return super.visitMethod(tree, v);
        }

        void call(Element element, Tree tree) {
            String name = element.getEnclosingElement() + "." + element;
            calls.computeIfAbsent(method, m -> new TreeSet<>()).add(name);
            if (!name.startsWith("ForestOfPoles") && !LIBRARY.contains(name)) {
                fail("rule 4, line " + start(tree) + ": " + name);
            }
        }

        @Override
        public Void visitMethodInvocation(MethodInvocationTree tree, Void v) {
            call(trees.getElement(getCurrentPath()), tree);
            return super.visitMethodInvocation(tree, v);
        }

        @Override
        public Void visitNewClass(NewClassTree tree, Void v) {
            if (tree.getClassBody() != null) {
                bad(2, tree);
            }
            call(trees.getElement(getCurrentPath()), tree);
            return super.visitNewClass(tree, v);
        }

        @Override
        public Void visitBinary(BinaryTree tree, Void v) {
            if (trees.getTypeMirror(getCurrentPath()).toString().equals("java.lang.String")) {
                bad(10, tree);
            }
            return super.visitBinary(tree, v);
        }

        @Override public Void visitThrow(ThrowTree tree, Void v) { return bad(6, tree); }

        @Override public Void visitTry(TryTree tree, Void v) { return bad(6, tree); }

        @Override public Void visitSynchronized(SynchronizedTree tree, Void v) { return bad(6, tree); }

        @Override public Void visitAssert(AssertTree tree, Void v) { return bad(6, tree); }

        @Override public Void visitLambdaExpression(LambdaExpressionTree tree, Void v) { return bad(2, tree); }

        @Override public Void visitMemberReference(MemberReferenceTree tree, Void v) { return bad(2, tree); }

        @Override public Void visitImport(ImportTree tree, Void v) { return bad(4, tree); }

        void finish() {
            if (classes > 12) {
                fail("rule 11: " + classes + " classes");
            }
            otherNames.retainAll(publicNames);
            otherNames.remove("<init>");
            if (!otherNames.isEmpty()) {
                fail("rule 1: names of public ones: " + otherNames);
            }
            for (String m : calls.keySet()) {
                int depth = depth(m, new ArrayList<>());
                if (depth > 8) {
                    fail("rule 11: " + m + " goes " + depth + " deep");
                }
            }
        }

        /** A method that calls itself stands for one level; a call of the library is a level too. */
        int depth(String m, List<String> open) {
            if (open.contains(m)) {
                if (!open.get(open.size() - 1).equals(m)) {
                    fail("rule 8: " + m + " comes back to itself by others");
                }
                return 0;
            }
            open.add(m);
            int deepest = 0;
            for (String callee : calls.getOrDefault(m, Set.of())) {
                deepest = Math.max(deepest, depth(callee, open));
            }
            open.remove(open.size() - 1);
            return deepest + 1;
        }
    }

    /** Any arguments in any state. */
    private static void storm() throws IllegalAccessException {
        int[] odd = {Integer.MIN_VALUE, Integer.MIN_VALUE + 1, -1000, -101, -100, -3, -2, -1, 0, 1, 2, 3, 4, 5, 6, 7, 8, 9, 10, 24, 31, 32, 33, 40, 41,
            60, 61, 63, 64, 99, 100, 300, 301, 511, 512, 999, 1000, 9999, 10000, Integer.MAX_VALUE - 1, Integer.MAX_VALUE};
        List<Method> methods = new ArrayList<>();
        for (Method m : ForestOfPoles.class.getMethods()) {
            if (m.getDeclaringClass() == ForestOfPoles.class) {
                methods.add(m);
            }
        }
        methods.sort((a, b) -> a.getName().compareTo(b.getName()));
        for (int seed = 0; seed < 400; seed++) {
            Random random = new Random(seed);
            ForestOfPoles f = new ForestOfPoles();
            if (seed % 2 == 0) {
                crowd(f);
            }
            for (int i = 0; i < 512; i++) {
                Method m = methods.get(random.nextInt(methods.size()));
                Object[] args = new Object[m.getParameterCount()];
                for (int k = 0; k < args.length; k++) {
                    int value = random.nextInt(3) > 0 ? random.nextInt(8) : odd[random.nextInt(odd.length)];
                    args[k] = m.getParameterTypes()[k] == boolean.class ? (Object) random.nextBoolean() : (Object) value;
                }
                try {
                    m.invoke(f, args);
                } catch (InvocationTargetException e) {
                    fail("rule 7: " + m.getName() + Arrays.toString(args) + " threw " + e.getCause());
                }
            }
        }
    }

    private static void crowd(ForestOfPoles f) {
        for (int i = 0; i < 8; i++) {
            f.pole(9 + 11 * i, 12 * i);
            f.power(1 + i, 60 * i);
        }
        for (int i = 0; i < 8; i++) {
            f.hoist(i % 6, i);
            f.hoist((i + 1) % 6, i);
        }
    }

    /** What a constructor makes is all that an object needs: the calls behind it make nothing. */
    private static void room() {
        com.sun.management.ThreadMXBean threads = (com.sun.management.ThreadMXBean) ManagementFactory.getThreadMXBean();
        long[] made = new long[3];
        for (int turn = 0; turn < 3; turn++) {
            long before = threads.getCurrentThreadAllocatedBytes();
            ForestOfPoles f = new ForestOfPoles();
            made[turn] = threads.getCurrentThreadAllocatedBytes() - before;
            crowd(f);
            before = threads.getCurrentThreadAllocatedBytes();
            allCalls(f);
            long more = threads.getCurrentThreadAllocatedBytes() - before;
            if (turn == 2 && more > 1000) {
                fail("room: calls made " + more + " bytes");
            }
        }
        if (made[2] > 200000) {
            fail("room: an object takes " + made[2] + " bytes");
        }
    }

    private static void allCalls(ForestOfPoles f) {
        // "climbs 2;blow 4;hour" " 3;              ..."
        f.feed(0x636c696d, 0x62732032, 0x3b626c6f, 0x7720343b, 0x686f7572);
        f.feed(0x20333b20, 0x20202020, 0x20202020, 0x20202020, 0x20202020);
        f.end(30);
        f.text();
        f.fault(0);
        f.by(0);
        f.hour(5);
        f.lower(0, 0);
        f.hoist(0, 0);
        f.prune(3, 1);
        f.blow(9);
        f.played(0);
        f.centuries(7, 40);
        f.undo();
        f.ofPole(0, 2);
        f.ofPower(0, 3);
        f.flag(0, 0, 4);
        f.is(0);
        f.book(0, 0);
        f.foretold(60);
        f.foretoldHeight(9, 0, 0);
        f.foretoldWind(9);
        f.heldFor(0);
        f.nearest(0);
        f.drops(0, 3, false);
        f.hoists(5, 4, 0);
        f.peace(0);
        f.strings(0);
        f.marks(63);
        f.behind(0);
        f.afar();
        f.might(0, 9, true);
        f.veto(9);
        f.shares(0, 9, 100);
        f.change(100, 3, 1);
        f.found(9, true);
        f.rhythms(true);
        f.ahead(0, 1);
        f.orders(0);
        f.surely(0, 1);
        f.image();
        f.back();
        f.about(0);
    }
}
