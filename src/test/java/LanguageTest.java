import com.sun.source.tree.AssertTree;
import com.sun.source.tree.BinaryTree;
import com.sun.source.tree.ClassTree;
import com.sun.source.tree.CompilationUnitTree;
import com.sun.source.tree.ImportTree;
import com.sun.source.tree.LambdaExpressionTree;
import com.sun.source.tree.LiteralTree;
import com.sun.source.tree.MemberReferenceTree;
import com.sun.source.tree.MethodInvocationTree;
import com.sun.source.tree.MethodTree;
import com.sun.source.tree.NewClassTree;
import com.sun.source.tree.SynchronizedTree;
import com.sun.source.tree.ThrowTree;
import com.sun.source.tree.Tree;
import com.sun.source.tree.TryTree;
import com.sun.source.tree.VariableTree;
import com.sun.source.util.JavacTask;
import com.sun.source.util.TreePathScanner;
import com.sun.source.util.Trees;
import java.lang.reflect.Constructor;
import java.lang.reflect.Field;
import java.lang.reflect.Method;
import java.lang.reflect.Modifier;
import java.nio.file.Path;
import java.util.ArrayList;
import java.util.Arrays;
import java.util.HashMap;
import java.util.HashSet;
import java.util.LinkedHashMap;
import java.util.LinkedHashSet;
import java.util.List;
import java.util.Map;
import java.util.Set;
import java.util.TreeSet;
import javax.lang.model.element.Element;
import javax.lang.model.element.ExecutableElement;
import javax.tools.JavaCompiler;
import javax.tools.StandardJavaFileManager;
import javax.tools.ToolProvider;

/** The rules of LANGUAGE.md that can be told from the source, and the document's face. */
public final class LanguageTest {
    private static final String SOURCE = "src/main/java/PasteHouse.java";
    private static final String[] FACE = {
        "int feed(int,int,int,int,int)", "int back(int)", "int read()", "int place()",
        "int board(int,int,int,int,boolean)", "boolean pace(int,int)", "int fact(int,int,int,int)",
        "int give(int,int)", "int mend(int,int)", "int given(int,int,int)", "int may(int,int)",
        "int bar(int,int)", "int lacks(int,int,int)", "int state(int,int,int,int)", "int refund(int,int,int)",
        "int ground(int,int,int)", "int reach(int,int,int)", "int count(int)"};
    /** Rule 4's library; of Integer, Long and Math all that does not end in Exact. */
    private static final Map<String, Set<String>> LIBRARY = Map.of(
            "java.lang.Object", Set.of("<init>", "clone"),
            "java.lang.String", Set.of("<init>", "length", "charAt", "isEmpty", "equals", "indexOf", "substring", "toCharArray"),
            "java.lang.StringBuilder", Set.of("<init>", "append", "charAt", "setCharAt", "setLength", "deleteCharAt", "reverse",
                    "length", "toString"),
            "java.util.ArrayList", Set.of("<init>", "add", "get", "set", "remove", "size", "isEmpty", "clear"),
            "java.util.List", Set.of("add", "get", "set", "remove", "size", "isEmpty", "clear", "of"),
            "java.lang.System", Set.of("arraycopy"),
            "java.util.Arrays", Set.of("copyOf", "copyOfRange", "fill"));
    private static final Set<String> NUMBERS = Set.of("java.lang.Integer", "java.lang.Long", "java.lang.Math");
    private static int wrong = 0;

    public static void main(String[] args) throws Exception {
        checkFace();
        checkNested();
        checkSource();
        System.out.println("LanguageTest: " + wrong + " rules broken");
        if (wrong != 0) {
            System.exit(1);
        }
    }

    private static void require(boolean kept, String rule) {
        if (!kept) {
            wrong++;
            System.out.println("broken: " + rule);
        }
    }

    private static void checkFace() {
        Set<String> found = new TreeSet<>();
        Set<String> names = new HashSet<>();
        for (Method method : PasteHouse.class.getDeclaredMethods()) {
            if (!Modifier.isPrivate(method.getModifiers())) {
                String types = String.join(",", Arrays.stream(method.getParameterTypes()).map(Class::getName).toList());
                found.add(method.getReturnType().getName() + " " + method.getName() + "(" + types + ")");
                require(Modifier.isPublic(method.getModifiers()), "rule 1: visible method " + method);
                names.add(method.getName());
            }
        }
        require(found.equals(new TreeSet<>(List.of(FACE))), "rule 1: the face is " + found);
        for (Field field : PasteHouse.class.getDeclaredFields()) {
            require(Modifier.isPrivate(field.getModifiers()) || field.getName().equals("NONE"), "rule 1: " + field);
        }
        Constructor<?>[] constructors = PasteHouse.class.getDeclaredConstructors();
        require(constructors.length == 1 && Modifier.isPublic(constructors[0].getModifiers()), "rule 1: constructors");
        require(Modifier.isFinal(PasteHouse.class.getModifiers()), "rule 1: final");
        for (Class<?> inside : allClasses()) {
            for (Method method : inside.getDeclaredMethods()) {
                boolean shared = names.contains(method.getName()) && !Modifier.isPublic(method.getModifiers());
                require(!shared, "rule 1: a method bears a public one's name: " + method);
            }
        }
    }

    private static List<Class<?>> allClasses() {
        List<Class<?>> classes = new ArrayList<>(List.of(PasteHouse.class.getDeclaredClasses()));
        classes.add(PasteHouse.class);
        return classes;
    }

    private static void checkNested() {
        require(allClasses().size() <= 12, "rule 11: classes");
        for (Class<?> inside : allClasses()) {
            int fields = 0;
            for (Field field : inside.getDeclaredFields()) {
                boolean isStatic = Modifier.isStatic(field.getModifiers());
                fields += isStatic ? 0 : 1;
                require(!isStatic || Modifier.isFinal(field.getModifiers()), "rule 5: " + field);
            }
            require(fields <= 20, "rule 11: fields of " + inside);
            boolean nested = inside != PasteHouse.class;
            require(!nested || Modifier.isStatic(inside.getModifiers()), "rule 2: " + inside);
            require(inside.getDeclaredClasses().length == 0 || !nested, "rule 2: " + inside);
        }
    }

    private static void checkSource() throws Exception {
        JavaCompiler compiler = ToolProvider.getSystemJavaCompiler();
        try (StandardJavaFileManager files = compiler.getStandardFileManager(null, null, null)) {
            JavacTask task = (JavacTask) compiler.getTask(null, files, null, List.of("-proc:none"), null,
                    files.getJavaFileObjects(Path.of(SOURCE)));
            Iterable<? extends CompilationUnitTree> units = task.parse();
            task.analyze();
            for (CompilationUnitTree unit : units) {
                Walk walk = new Walk(Trees.instance(task), unit);
                walk.scan(unit, null);
                require(unit.getPackageName() == null, "no package");
                int deepest = new Depths(walk.calls).deepest();
                require(deepest <= 8, "rule 11: calls go " + deepest + " deep");
            }
        }
    }

    /** Looks at every node, and gathers which method calls which. */
    private static final class Walk extends TreePathScanner<Void, Void> {
        private final Trees trees;
        private final CompilationUnitTree unit;
        private final Map<Element, Set<Element>> calls = new LinkedHashMap<>();
        private Element within = null;

        Walk(Trees trees, CompilationUnitTree unit) {
            this.trees = trees;
            this.unit = unit;
        }

        private void refuse(Tree tree, String rule) {
            long position = trees.getSourcePositions().getStartPosition(unit, tree);
            require(false, rule + " in line " + unit.getLineMap().getLineNumber(position));
        }

        @Override
        public Void visitMethod(MethodTree method, Void none) {
            long start = trees.getSourcePositions().getStartPosition(unit, method);
            long end = trees.getSourcePositions().getEndPosition(unit, method);
            if (end > start) {
                long lines = unit.getLineMap().getLineNumber(end) - unit.getLineMap().getLineNumber(start) + 1;
                require(lines <= 60, "rule 11: " + method.getName() + " has " + lines + " lines");
            }
            require(method.getParameters().size() <= 7, "rule 11: parameters of " + method.getName());
            within = trees.getElement(getCurrentPath());
            calls.putIfAbsent(within, new LinkedHashSet<>());
            super.visitMethod(method, none);
            within = null;
            return null;
        }

        private void noteCall() {
            Element called = trees.getElement(getCurrentPath());
            if (within != null && called instanceof ExecutableElement) {
                calls.get(within).add(called);
            }
            if (called != null) {
                require(isFine(called), "rule 4: " + called.getEnclosingElement() + "." + called);
            }
        }

        private static boolean isFine(Element called) {
            String owner = called.getEnclosingElement().toString().replaceAll("<.*", "");
            String name = called.getSimpleName().toString();
            if (owner.equals("PasteHouse") || owner.startsWith("PasteHouse.")) {
                return true;
            }
            return NUMBERS.contains(owner) ? !name.endsWith("Exact") : LIBRARY.getOrDefault(owner, Set.of()).contains(name);
        }

        @Override
        public Void visitMethodInvocation(MethodInvocationTree call, Void none) {
            noteCall();
            return super.visitMethodInvocation(call, none);
        }

        @Override
        public Void visitNewClass(NewClassTree made, Void none) {
            noteCall();
            if (made.getClassBody() != null) {
                refuse(made, "rule 2: anonymous class");
            }
            require(within == null || within.getSimpleName().contentEquals("<init>"),
                    "what a run makes is made in constructors alone, not in " + within);
            return super.visitNewClass(made, none);
        }

        @Override
        public Void visitClass(ClassTree type, Void none) {
            require(within == null, "rule 2: local class " + type.getSimpleName());
            return super.visitClass(type, none);
        }

        @Override
        public Void visitImport(ImportTree imported, Void none) {
            Set<String> fine = Set.of("java.util.Arrays", "java.util.ArrayList", "java.util.List");
            require(fine.contains(imported.getQualifiedIdentifier().toString()), "rule 4: " + imported);
            return super.visitImport(imported, none);
        }

        @Override
        public Void visitThrow(ThrowTree tree, Void none) {
            refuse(tree, "rule 6: throw");
            return super.visitThrow(tree, none);
        }

        @Override
        public Void visitTry(TryTree tree, Void none) {
            refuse(tree, "rule 6: try");
            return super.visitTry(tree, none);
        }

        @Override
        public Void visitSynchronized(SynchronizedTree tree, Void none) {
            refuse(tree, "rule 6: synchronized");
            return super.visitSynchronized(tree, none);
        }

        @Override
        public Void visitAssert(AssertTree tree, Void none) {
            refuse(tree, "rule 6: assert");
            return super.visitAssert(tree, none);
        }

        @Override
        public Void visitLambdaExpression(LambdaExpressionTree tree, Void none) {
            refuse(tree, "rule 2: lambda");
            return super.visitLambdaExpression(tree, none);
        }

        @Override
        public Void visitMemberReference(MemberReferenceTree tree, Void none) {
            refuse(tree, "rule 2: method reference");
            return super.visitMemberReference(tree, none);
        }

        @Override
        public Void visitVariable(VariableTree variable, Void none) {
            require(!variable.getName().contentEquals("var"), "rule 3");
            return super.visitVariable(variable, none);
        }

        @Override
        public Void visitBinary(BinaryTree binary, Void none) {
            if (binary.getKind() == Tree.Kind.PLUS && (isText(binary.getLeftOperand()) || isText(binary.getRightOperand()))) {
                refuse(binary, "rule 10: texts joined by +");
            }
            return super.visitBinary(binary, none);
        }

        private static boolean isText(Tree tree) {
            return tree instanceof LiteralTree literal && literal.getValue() instanceof String;
        }
    }

    /** The longest chain of calls in which no method stands twice; a method's calls of itself are one level. */
    private static final class Depths {
        private final Map<Element, Set<Element>> calls;
        private final Map<Element, Integer> known = new HashMap<>();

        Depths(Map<Element, Set<Element>> calls) {
            this.calls = calls;
        }

        int deepest() {
            int deepest = 0;
            for (Element method : calls.keySet()) {
                deepest = Math.max(deepest, depthOf(method));
            }
            return deepest;
        }

        private int depthOf(Element method) {
            if (!calls.containsKey(method)) {
                return 1;
            }
            Integer depth = known.get(method);
            if (depth == null) {
                // A call back into a chain that stands open is recursion, and adds nothing.
                known.put(method, 0);
                int below = 0;
                for (Element called : calls.get(method)) {
                    below = Math.max(below, depthOf(called));
                }
                depth = below + 1;
                known.put(method, depth);
            }
            return depth;
        }
    }
}
