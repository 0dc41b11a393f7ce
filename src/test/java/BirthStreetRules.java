import com.sun.source.tree.ArrayAccessTree;
import com.sun.source.tree.ClassTree;
import com.sun.source.tree.CompilationUnitTree;
import com.sun.source.tree.DoWhileLoopTree;
import com.sun.source.tree.MethodInvocationTree;
import com.sun.source.tree.MethodTree;
import com.sun.source.tree.NewClassTree;
import com.sun.source.tree.Tree;
import com.sun.source.tree.WhileLoopTree;
import com.sun.source.util.JavacTask;
import com.sun.source.util.TreePathScanner;
import com.sun.source.util.Trees;
import java.io.IOException;
import java.lang.reflect.Field;
import java.lang.reflect.Method;
import java.lang.reflect.Modifier;
import java.nio.file.Files;
import java.nio.file.Path;
import java.util.Arrays;
import java.util.List;
import java.util.Map;
import java.util.TreeMap;
import java.util.TreeSet;
import java.util.regex.Matcher;
import java.util.regex.Pattern;
import java.util.stream.Collectors;
import javax.lang.model.element.Element;
import javax.tools.JavaCompiler;
import javax.tools.StandardJavaFileManager;
import javax.tools.ToolProvider;

// The face, and those rules of ../shared/LANGUAGE.md that can be seen by reflection, in the text or in the compiler's tree.
public final class BirthStreetRules {
    private static final Path PROGRAM = Path.of("src/main/java/BirthStreet.java");
    private static final List<String> FACE = List.of(
        "int letter(int)", "int blank()", "int fault()", "int street()", "int about(int,int)", "int as(int,int)",
        "int birth(int)", "int day()", "int then(int,int)", "int goesTo(int,int)", "int walk()", "int debt(int,int)",
        "int pay()", "int cheap(int,int)", "int when(int,int)", "int hear(int,int)", "int forget()", "int days(int)",
        "int ask()", "int years(int,int,int)", "int image()", "int restore()", "int count(int)", "long digest()");
    private static final List<String> CONSTANTS = List.of("NONE", "UNKNOWN", "OUTSIDE", "STATE", "FULL");
    private static final String NOT_IN_IT = "import|package|throw|throws|try|catch|finally|assert|synchronized|protected"
        + "|volatile|transient|native|System|Object|Random|Thread|equals|hashCode|toString|double|float";

    private static final String LIBRARY = "java\\.lang\\.(Object\\.<init>|String\\.(length|charAt|isEmpty|equals|substring|toCharArray)"
        + "|(Integer|Long|Math)\\.(abs|bitCount|compare|floorDiv|floorMod|max|min))";
    private static final int DEEPEST = 8, MOST_LINES = 60, MOST_PARAMETERS = 7, MOST_FIELDS = 20, MOST_CLASSES = 12;

    private static int wrong = 0;

    private static void check(boolean right, String what) {
        if (!right) {
            wrong++;
            System.out.println(what);
        }
    }

    private static String told(Method method) {
        String types = Arrays.stream(method.getParameterTypes()).map(Class::getSimpleName).collect(Collectors.joining(","));
        return method.getReturnType().getSimpleName() + " " + method.getName() + "(" + types + ")";
    }

    private static void theFace() {
        Class<?> face = BirthStreet.class;
        check(Modifier.isPublic(face.getModifiers()) && Modifier.isFinal(face.getModifiers()), "the class is not public and final");
        List<Method> all = Arrays.stream(face.getDeclaredMethods()).filter(m -> !m.isSynthetic()).toList();
        List<Method> open = all.stream().filter(m -> !Modifier.isPrivate(m.getModifiers())).toList();
        check(open.stream().allMatch(m -> Modifier.isPublic(m.getModifiers()) && !Modifier.isStatic(m.getModifiers())),
            "a method is neither public nor private");
        TreeSet<String> shown = open.stream().map(BirthStreetRules::told).collect(Collectors.toCollection(TreeSet::new));
        check(shown.equals(new TreeSet<>(FACE)), "the face is " + shown);
        TreeSet<String> names = open.stream().map(Method::getName).collect(Collectors.toCollection(TreeSet::new));
        check(all.stream().noneMatch(m -> Modifier.isPrivate(m.getModifiers()) && names.contains(m.getName())),
            "a private method bears the name of a public one");
        check(face.getDeclaredConstructors().length == 1 && face.getConstructors().length == 1, "there is not the one constructor");
        TreeSet<String> constants = new TreeSet<>();
        for (Field field : face.getDeclaredFields()) {
            int is = field.getModifiers();
            check(!Modifier.isStatic(is) || Modifier.isFinal(is), field + " is static, not final");
            check(Modifier.isPublic(is) || Modifier.isPrivate(is), field + " is neither public nor private");
            if (Modifier.isPublic(is)) {
                constants.add(field.getName());
            }
        }
        check(constants.equals(new TreeSet<>(CONSTANTS)), "the constants are " + constants);
    }

    private static void theText() throws IOException {
        String text = Files.readString(PROGRAM);
        check(text.chars().allMatch(c -> c < 128), "a sign above 127");
        String code = text.replaceAll("(?s)/\\*.*?\\*/", "").replaceAll("//[^\n]*", "");
        Matcher word = Pattern.compile("\\b(" + NOT_IN_IT + ")\\b").matcher(code);
        while (word.find()) {
            check(false, "the word " + word.group());
        }
        check(!code.contains("->") && !code.contains("::"), "a lambda or a method reference");
        // What a call makes is counted against the room, so all is made with the object.
        Matcher made = Pattern.compile("(?m)^.*\\bnew\\b.*$").matcher(code);
        while (made.find()) {
            String line = made.group().strip();
            check(line.startsWith("private final ") || line.startsWith("cells = "), "made by a call: " + line);
        }
    }

    // ---- the compiler's tree

    private static final Map<String, TreeSet<String>> calls = new TreeMap<>();

    private static void theTree() throws IOException {
        JavaCompiler compiler = ToolProvider.getSystemJavaCompiler();
        try (StandardJavaFileManager files = compiler.getStandardFileManager(null, null, null)) {
            JavacTask task = (JavacTask) compiler.getTask(null, files, null, List.of("-proc:none"), null, files.getJavaFileObjects(PROGRAM));
            CompilationUnitTree unit = task.parse().iterator().next();
            task.analyze();
            new Reader(Trees.instance(task), unit).scan(unit, null);
        }
        check(calls.containsKey("BirthStreet.digest"), "the tree was not read");
        for (String method : calls.keySet()) {
            int deep = deep(method, 1);
            check(deep <= DEEPEST, method + " calls " + deep + " deep, or itself");
        }
    }

    private static int deep(String method, int sofar) {
        int deepest = sofar;
        for (String called : calls.getOrDefault(method, new TreeSet<>())) {
            deepest = sofar > DEEPEST ? deepest : Math.max(deepest, deep(called, sofar + 1));
        }
        return deepest;
    }

    private static final class Reader extends TreePathScanner<Void, Void> {
        private final Trees trees;
        private final CompilationUnitTree unit;
        private String type = "";
        private String method = "";
        private int classes = 0;

        Reader(Trees trees, CompilationUnitTree unit) {
            this.trees = trees;
            this.unit = unit;
        }

        private void call(Element called) {
            String name = called.getEnclosingElement() + "." + called.getSimpleName();
            if (name.startsWith("BirthStreet")) {
                calls.computeIfAbsent(method, m -> new TreeSet<>()).add(name);
            } else {
                check(name.matches(LIBRARY), method + " calls " + name);
            }
        }

        private long line(long place) {
            return unit.getLineMap().getLineNumber(place);
        }

        @Override
        public Void visitClass(ClassTree tree, Void nothing) {
            String outer = type;
            String of = method;
            type = trees.getElement(getCurrentPath()).toString();
            method = type + ".<init>";
            classes++;
            check(classes <= MOST_CLASSES, classes + " classes");
            long fields = tree.getMembers().stream().filter(m -> m.getKind() == Tree.Kind.VARIABLE)
                .filter(m -> !m.toString().contains("static final")).count();
            check(fields <= MOST_FIELDS, type + " has " + fields + " fields");
            super.visitClass(tree, nothing);
            type = outer;
            method = of;
            return null;
        }

        @Override
        public Void visitMethod(MethodTree tree, Void nothing) {
            String of = method;
            method = type + "." + tree.getName();
            calls.computeIfAbsent(method, m -> new TreeSet<>());
            long lines = line(trees.getSourcePositions().getEndPosition(unit, tree))
                - line(trees.getSourcePositions().getStartPosition(unit, tree)) + 1;
            check(lines <= MOST_LINES, method + " has " + lines + " lines");
            check(tree.getParameters().size() <= MOST_PARAMETERS, method + " has " + tree.getParameters().size() + " parameters");
            super.visitMethod(tree, nothing);
            method = of;
            return null;
        }

        @Override
        public Void visitMethodInvocation(MethodInvocationTree tree, Void nothing) {
            call(trees.getElement(getCurrentPath()));
            return super.visitMethodInvocation(tree, nothing);
        }

        @Override
        public Void visitNewClass(NewClassTree tree, Void nothing) {
            call(trees.getElement(getCurrentPath()));
            return super.visitNewClass(tree, nothing);
        }

        // Row looks at each index before it is used; so no other class may use one.
        @Override
        public Void visitArrayAccess(ArrayAccessTree tree, Void nothing) {
            check(type.equals("BirthStreet.Row"), method + " uses an index: " + tree);
            return super.visitArrayAccess(tree, nothing);
        }

        // All loops count against a bound in their own line.
        @Override
        public Void visitWhileLoop(WhileLoopTree tree, Void nothing) {
            check(false, method + " has a while");
            return super.visitWhileLoop(tree, nothing);
        }

        @Override
        public Void visitDoWhileLoop(DoWhileLoopTree tree, Void nothing) {
            check(false, method + " has a do");
            return super.visitDoWhileLoop(tree, nothing);
        }
    }

    public static void main(String[] args) throws IOException {
        theFace();
        theText();
        theTree();
        System.out.println(wrong == 0 ? "the rules are kept" : wrong + " rules are broken");
        if (wrong != 0) {
            System.exit(1);
        }
    }
}
