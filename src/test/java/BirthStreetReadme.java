import java.io.IOException;
import java.lang.reflect.Method;
import java.lang.reflect.Modifier;
import java.nio.file.Files;
import java.nio.file.Path;
import java.util.ArrayList;
import java.util.Arrays;
import java.util.List;
import java.util.TreeSet;
import java.util.regex.Matcher;
import java.util.regex.Pattern;
import java.util.stream.Collectors;
import java.util.stream.Stream;
import javax.tools.JavaCompiler;
import javax.tools.ToolProvider;

// README.md: what it says of the class and of the tests is so.
public final class BirthStreetReadme {
    private static final Pattern CALL = Pattern.compile("(x\\.(\\w+)\\(.*\\)); +// (-?\\w+)(: .*)?");
    private static final int FEWEST_LINES = 20;

    private static int wrong = 0;

    private static void check(boolean right, String what) {
        if (!right) {
            wrong++;
            System.out.println("README.md: " + what);
        }
    }

    private static List<Method> face() {
        return Arrays.stream(BirthStreet.class.getDeclaredMethods()).filter(m -> Modifier.isPublic(m.getModifiers())).toList();
    }

    private static List<String> found(String pattern, String text) {
        Matcher matcher = Pattern.compile(pattern).matcher(text);
        List<String> all = new ArrayList<>();
        while (matcher.find()) {
            all.add(matcher.group(1));
        }
        return all;
    }

    // ---- the lines of Java

    private static String javaLines(String readme) {
        List<String> blocks = found("(?s)```java\n(.*?)```", readme);
        check(blocks.size() == 1, blocks.size() + " blocks of Java");
        return String.join("", blocks);
    }

    // Each call becomes one that is held against the answer behind it; any other line stays as it is.
    private static String asAClass(String lines) {
        StringBuilder text = new StringBuilder("public final class Mine {\n    public static boolean right = true;\n")
            .append("    static void due(String call, long got, long want) {\n        if (got == want) return;\n        right = false;\n")
            .append("        System.out.println(\"README.md: \" + call + \" answered \" + got + \", it says \" + want);\n    }\n")
            .append("    public static void run() {\n");
        int calls = 0;
        for (String line : lines.split("\n")) {
            Matcher call = CALL.matcher(line);
            if (call.matches()) {
                calls++;
                String answer = call.group(3).matches("[A-Z]+") ? "BirthStreet." + call.group(3) : call.group(3) + "L";
                text.append("due(\"").append(call.group(1)).append("\", ").append(call.group(1)).append(", ").append(answer).append(");\n");
            } else {
                check(!line.startsWith("x."), "no answer behind " + line);
                text.append(line).append('\n');
            }
        }
        check(calls >= FEWEST_LINES, "no more than " + calls + " lines with an answer");
        return text.append("    }\n}\n").toString();
    }

    private static void theLinesAnswerSo(String readme) throws IOException, ReflectiveOperationException {
        Path classes = Path.of(System.getProperty("java.class.path"));
        Path file = Files.createTempDirectory(classes, "readme").resolve("Mine.java");
        Files.writeString(file, asAClass(javaLines(readme)));
        JavaCompiler compiler = ToolProvider.getSystemJavaCompiler();
        int failed = compiler.run(null, null, null, "-cp", classes.toString(), "-d", classes.toString(), file.toString());
        check(failed == 0, "its lines of Java do not compile");
        if (failed == 0) {
            Class<?> mine = Class.forName("Mine");
            mine.getMethod("run").invoke(null);
            check(mine.getField("right").getBoolean(null), "its lines of Java answer otherwise");
        }
    }

    // ---- calls, constants, tests

    private static void theCallsAreTheFace(String readme) {
        TreeSet<String> told = new TreeSet<>(found("(?m)`(\\w+\\([^)`]*\\))`(?=.*\\|.*\\|$)", readme));
        TreeSet<String> names = told.stream().map(call -> call.replaceAll("\\(.*", "/") + parameters(call))
            .collect(Collectors.toCollection(TreeSet::new));
        TreeSet<String> due = face().stream().map(m -> m.getName() + "/" + m.getParameterCount())
            .collect(Collectors.toCollection(TreeSet::new));
        check(names.equals(due), "its table of calls is " + names + ", the face " + due);
    }

    private static int parameters(String call) {
        return call.endsWith("()") ? 0 : call.split(",").length;
    }

    private static void theConstantsAreSo(String readme) {
        check(readme.contains("`UNKNOWN` (" + BirthStreet.UNKNOWN + ")"), "UNKNOWN");
        check(readme.contains("`OUTSIDE` (" + BirthStreet.OUTSIDE + ")"), "OUTSIDE");
        check(readme.contains("`STATE` (" + BirthStreet.STATE + ")"), "STATE");
        check(readme.contains("`FULL` (" + BirthStreet.FULL + ")"), "FULL");
        check(readme.contains("`NONE` (" + BirthStreet.NONE + ")"), "NONE");
    }

    // Promise 25: a digest wraps, so one below -100 is no refusal; the page must not say that it is.
    private static void aDigestIsNoRefusal(String readme) {
        BirthStreet x = new BirthStreet();
        "h1,h2".chars().forEach(x::letter);
        check(x.digest() < BirthStreet.FULL, "promise 25: that digest is no longer below the refusals");
        check(readme.contains("`digest()` refuses nothing and may answer any number") && !readme.contains("below -100"),
            "promise 25: a digest below -100 is no refusal");
    }

    private static void theTestsAreNamed(String readme) throws IOException {
        TreeSet<String> told = new TreeSet<>(found("(?m)^- `(BirthStreet\\w+)`: ", readme));
        try (Stream<Path> files = Files.list(Path.of("src/test/java"))) {
            TreeSet<String> due = files.map(f -> f.getFileName().toString().replace(".java", ""))
                .collect(Collectors.toCollection(TreeSet::new));
            check(told.equals(due), "its tests are " + told + ", those of the project " + due);
        }
        check(readme.contains("\n    .ci/run\n") && Files.isExecutable(Path.of(".ci/run")), ".ci/run is not named, or not executable");
        for (String path : found("`((?:src|\\.\\./shared)/[\\w/.]+)`", readme)) {
            boolean shared = path.startsWith("../shared") && !Files.exists(Path.of("../shared"));
            check(shared || Files.exists(Path.of(path)), "there is no " + path);
        }
    }

    public static void main(String[] args) throws IOException, ReflectiveOperationException {
        String readme = Files.readString(Path.of("README.md"));
        theLinesAnswerSo(readme);
        theCallsAreTheFace(readme);
        theConstantsAreSo(readme);
        aDigestIsNoRefusal(readme);
        theTestsAreNamed(readme);
        System.out.println(wrong == 0 ? "README.md says what is so" : wrong + " things in README.md are not so");
        if (wrong != 0) {
            System.exit(1);
        }
    }
}
