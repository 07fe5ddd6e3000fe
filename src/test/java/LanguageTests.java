import com.sun.source.tree.ClassTree;
import com.sun.source.tree.CompilationUnitTree;
import com.sun.source.tree.MethodInvocationTree;
import com.sun.source.tree.MethodTree;
import com.sun.source.tree.NewArrayTree;
import com.sun.source.tree.NewClassTree;
import com.sun.source.tree.Tree;
import com.sun.source.tree.VariableTree;
import com.sun.source.util.JavacTask;
import com.sun.source.util.TreePath;
import com.sun.source.util.TreePathScanner;
import com.sun.source.util.Trees;
import java.lang.reflect.Constructor;
import java.lang.reflect.Field;
import java.lang.reflect.Method;
import java.lang.reflect.Modifier;
import java.nio.file.Path;
import java.util.ArrayList;
import java.util.HashMap;
import java.util.List;
import java.util.Map;
import java.util.Set;
import java.util.TreeSet;
import javax.lang.model.element.Element;
import javax.lang.model.element.ElementKind;
import javax.lang.model.element.ExecutableElement;
import javax.tools.JavaCompiler;
import javax.tools.StandardJavaFileManager;
import javax.tools.ToolProvider;

/** The rules of LANGUAGE.md that can be read off the source, and the document's face. Takes the source's path. */
public final class LanguageTests {
    private static final Set<Tree.Kind> FORBIDDEN = Set.of(Tree.Kind.THROW, Tree.Kind.TRY, Tree.Kind.CATCH,
        Tree.Kind.SYNCHRONIZED, Tree.Kind.ASSERT, Tree.Kind.LAMBDA_EXPRESSION, Tree.Kind.MEMBER_REFERENCE,
        Tree.Kind.IMPORT, Tree.Kind.PACKAGE, Tree.Kind.ANNOTATION, Tree.Kind.SWITCH_EXPRESSION,
        Tree.Kind.INSTANCE_OF, Tree.Kind.UNION_TYPE, Tree.Kind.YIELD);
    private static final Set<String> LIBRARY = Set.of("Math.floorMod", "Math.min", "Math.max", "Integer.bitCount",
        "System.arraycopy", "String.length", "String.charAt", "String.isEmpty");
    private static final String FACE = "again(int) began(int) cloud(int,int) count(int) day() "
        + "fails(int,int,int,int,boolean) fall(int,int) fault() judge(int,long) keep(int) lacks(int) most() "
        + "paper(int,int) pass() puff(int,boolean) puffs() rests(int,int,int) seasons(int) see(int,int) seed(long) "
        + "share(int,boolean) tear(int) umbrellas(int) undo() unsee() where(int,int) wipe() write(int)";

    private static int passed = 0;
    private static int failed = 0;

    public static void main(String[] args) throws Exception {
        face();
        Path source = Path.of(args.length > 0 ? args[0] : "src/main/java/PromisedSnow.java");
        JavaCompiler compiler = ToolProvider.getSystemJavaCompiler();
        try (StandardJavaFileManager files = compiler.getStandardFileManager(null, null, null)) {
            JavacTask task = (JavacTask) compiler.getTask(null, files, null, List.of("-proc:none"), null,
                files.getJavaFileObjects(source));
            CompilationUnitTree unit = task.parse().iterator().next();
            task.analyze();
            Reader reader = new Reader(Trees.instance(task), unit);
            reader.scan(unit, null);
            reader.conclude();
        }
        System.out.println(passed + " passed, " + failed + " failed");
        if (failed != 0) {
            System.exit(1);
        }
    }

    private static void rule(String what, boolean holds) {
        if (holds) {
            passed++;
        } else {
            failed++;
            System.out.println("not so: " + what);
        }
    }

    private static void face() {
        Set<String> methods = new TreeSet<>();
        for (Method m : PromisedSnow.class.getDeclaredMethods()) {
            if (!Modifier.isPrivate(m.getModifiers())) {
                List<String> types = new ArrayList<>();
                for (Class<?> type : m.getParameterTypes()) {
                    types.add(type.getName());
                }
                methods.add(m.getName() + "(" + String.join(",", types) + ")");
                Class<?> answer = m.getName().equals("seed") ? long.class : int.class;
                rule(m.getName() + " is public, not static, of its type", Modifier.isPublic(m.getModifiers())
                    && !Modifier.isStatic(m.getModifiers()) && m.getReturnType() == answer);
            }
        }
        rule("the methods are the document's: " + methods, methods.equals(new TreeSet<>(List.of(FACE.split(" ")))));
        Set<String> constants = new TreeSet<>();
        for (Field f : PromisedSnow.class.getDeclaredFields()) {
            if (!Modifier.isPrivate(f.getModifiers())) {
                constants.add(Modifier.toString(f.getModifiers()) + " " + f.getType() + " " + f.getName());
            }
        }
        String kind = "public static final int ";
        rule("the constants are the document's", constants.equals(Set.of(kind + "UNKNOWN", kind + "OUTSIDE",
            kind + "STATE", kind + "FULL", kind + "NONE")));
        Constructor<?>[] made = PromisedSnow.class.getDeclaredConstructors();
        rule("one public constructor", made.length == 1 && Modifier.isPublic(made[0].getModifiers())
            && made[0].getParameterCount() == 0);
        int own = PromisedSnow.class.getModifiers();
        rule("the class is public and final", Modifier.isPublic(own) && Modifier.isFinal(own));
    }

    private static final class Reader extends TreePathScanner<Void, Void> {
        private final Trees trees;
        private final CompilationUnitTree unit;
        private final Map<String, Set<String>> calls = new HashMap<>();
        private final Set<String> publicNames = new TreeSet<>();
        private final List<String> otherNames = new ArrayList<>();
        private String method = "";
        private boolean making = false;
        private int classes = 0;

        Reader(Trees trees, CompilationUnitTree unit) {
            this.trees = trees;
            this.unit = unit;
        }

        private long line(long position) {
            return unit.getLineMap().getLineNumber(position);
        }

        private String at(Tree tree) {
            return "line " + line(trees.getSourcePositions().getStartPosition(unit, tree));
        }

        @Override
        public Void scan(Tree tree, Void none) {
            if (tree != null && FORBIDDEN.contains(tree.getKind())) {
                rule("no " + tree.getKind() + ", " + at(tree), false);
            }
            return super.scan(tree, none);
        }

        @Override
        public Void visitClass(ClassTree tree, Void none) {
            classes++;
            boolean outer = getCurrentPath().getParentPath().getLeaf() == unit;
            Set<javax.lang.model.element.Modifier> is = tree.getModifiers().getFlags();
            rule("a class inside is static and not public, " + at(tree), outer
                || is.contains(javax.lang.model.element.Modifier.STATIC)
                && !is.contains(javax.lang.model.element.Modifier.PUBLIC));
            int fields = 0;
            for (Tree member : tree.getMembers()) {
                if (member instanceof VariableTree) {
                    boolean fixed = ((VariableTree) member).getModifiers().getFlags()
                        .contains(javax.lang.model.element.Modifier.STATIC);
                    fields += fixed ? 0 : 1;
                    rule("a static field is final, " + at(member), !fixed || ((VariableTree) member).getModifiers()
                        .getFlags().contains(javax.lang.model.element.Modifier.FINAL));
                }
                rule("no initialiser block, " + at(member), member.getKind() != Tree.Kind.BLOCK);
            }
            rule("twenty fields at most in " + tree.getSimpleName(), fields <= 20);
            return super.visitClass(tree, none);
        }

        @Override
        public Void visitMethod(MethodTree tree, Void none) {
            String owner = trees.getElement(getCurrentPath()).getEnclosingElement().toString();
            String name = tree.getName().toString();
            method = owner + "." + name;
            making = name.equals("<init>");
            calls.computeIfAbsent(method, k -> new TreeSet<>());
            if (tree.getModifiers().getFlags().contains(javax.lang.model.element.Modifier.PUBLIC)) {
                publicNames.add(name);
            } else if (!making) {
                otherNames.add(name);
            }
            rule("seven parameters at most, " + at(tree), tree.getParameters().size() <= 7);
            long end = line(trees.getSourcePositions().getEndPosition(unit, tree));
            long lines = end - line(trees.getSourcePositions().getStartPosition(unit, tree)) + 1;
            rule("sixty lines at most, " + at(tree), lines <= 60);
            return super.visitMethod(tree, none);
        }

        @Override
        public Void visitMethodInvocation(MethodInvocationTree tree, Void none) {
            Element called = trees.getElement(new TreePath(getCurrentPath(), tree.getMethodSelect()));
            if (called instanceof ExecutableElement && called.getKind() == ElementKind.METHOD) {
                Element owner = called.getEnclosingElement();
                String name = owner + "." + called.getSimpleName();
                if (owner.toString().startsWith("PromisedSnow")) {
                    calls.get(method).add(name);
                } else {
                    String short1 = owner.getSimpleName() + "." + called.getSimpleName();
                    rule("in the library: " + short1 + ", " + at(tree), LIBRARY.contains(short1));
                }
            }
            return super.visitMethodInvocation(tree, none);
        }

        @Override
        public Void visitNewClass(NewClassTree tree, Void none) {
            rule("made in a constructor, with no body, " + at(tree), making && tree.getClassBody() == null);
            return super.visitNewClass(tree, none);
        }

        @Override
        public Void visitNewArray(NewArrayTree tree, Void none) {
            rule("made in a constructor, " + at(tree), making);
            return super.visitNewArray(tree, none);
        }

        void conclude() {
            rule("twelve classes at most", classes <= 12);
            for (String name : otherNames) {
                rule("no other method is named " + name, !publicNames.contains(name));
            }
            for (String from : calls.keySet()) {
                rule("calls from " + from + " go eight deep at most", depth(from, 1) <= 8);
            }
        }

        /** How deep calls go; recursion (there is none) would be told as too deep. */
        private int depth(String from, int so) {
            int deepest = so;
            for (String to : calls.getOrDefault(from, Set.of())) {
                deepest = Math.max(deepest, so > 8 ? so : depth(to, so + 1));
            }
            return deepest;
        }
    }
}
