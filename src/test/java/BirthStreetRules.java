import java.io.IOException;
import java.lang.reflect.Field;
import java.lang.reflect.Method;
import java.lang.reflect.Modifier;
import java.nio.file.Files;
import java.nio.file.Path;
import java.util.Arrays;
import java.util.List;
import java.util.TreeSet;
import java.util.regex.Matcher;
import java.util.regex.Pattern;
import java.util.stream.Collectors;

// The face, and those rules of ../shared/LANGUAGE.md that can be seen by reflection or in the text.
public final class BirthStreetRules {
    private static final Path PROGRAM = Path.of("src/main/java/BirthStreet.java");
    private static final List<String> FACE = List.of(
        "int letter(int)", "int blank()", "int fault()", "int street()", "int about(int,int)", "int as(int,int)",
        "int birth(int)", "int day()", "int then(int,int)", "int goesTo(int,int)", "int walk()", "int debt(int,int)",
        "int pay()", "int cheap(int,int)", "int when(int,int)", "int hear(int,int)", "int forget()", "int days(int)",
        "int ask()", "int years(int,int,int)", "int image()", "int restore()", "int count(int)", "long digest()");
    private static final List<String> CONSTANTS = List.of("NONE", "UNKNOWN", "OUTSIDE", "STATE", "FULL");
    private static final String NOT_IN_IT = "import|package|throw|throws|try|catch|finally|assert|synchronized|protected"
        + "|volatile|transient|native|System|Object|Random|Thread|equals|hashCode|toString|double|float";

    private static int wrong = 0;

    private static void check(boolean right, String what) {
        if (!right) {
            wrong++;
            System.out.println(what);
        }
    }

    private static String told(Method method) {
        String types = Arrays.stream(method.getParameterTypes()).map(Class::getSimpleName).collect(Collectors.joining(","));
        return method.getReturnType().getSimpleName() + " " + method.getName() + "(" + types + ")";
    }

    private static void theFace() {
        Class<?> face = BirthStreet.class;
        check(Modifier.isPublic(face.getModifiers()) && Modifier.isFinal(face.getModifiers()), "the class is not public and final");
        List<Method> all = Arrays.stream(face.getDeclaredMethods()).filter(m -> !m.isSynthetic()).toList();
        List<Method> open = all.stream().filter(m -> !Modifier.isPrivate(m.getModifiers())).toList();
        check(open.stream().allMatch(m -> Modifier.isPublic(m.getModifiers()) && !Modifier.isStatic(m.getModifiers())),
            "a method is neither public nor private");
        TreeSet<String> shown = open.stream().map(BirthStreetRules::told).collect(Collectors.toCollection(TreeSet::new));
        check(shown.equals(new TreeSet<>(FACE)), "the face is " + shown);
        TreeSet<String> names = open.stream().map(Method::getName).collect(Collectors.toCollection(TreeSet::new));
        check(all.stream().noneMatch(m -> Modifier.isPrivate(m.getModifiers()) && names.contains(m.getName())),
            "a private method bears the name of a public one");
        check(face.getDeclaredConstructors().length == 1 && face.getConstructors().length == 1, "there is not the one constructor");
        TreeSet<String> constants = new TreeSet<>();
        for (Field field : face.getDeclaredFields()) {
            int is = field.getModifiers();
            check(!Modifier.isStatic(is) || Modifier.isFinal(is), field + " is static, not final");
            check(Modifier.isPublic(is) || Modifier.isPrivate(is), field + " is neither public nor private");
            if (Modifier.isPublic(is)) {
                constants.add(field.getName());
            }
        }
        check(constants.equals(new TreeSet<>(CONSTANTS)), "the constants are " + constants);
    }

    private static void theText() throws IOException {
        String text = Files.readString(PROGRAM);
        check(text.chars().allMatch(c -> c < 128), "a sign above 127");
        String code = text.replaceAll("(?s)/\\*.*?\\*/", "").replaceAll("//[^\n]*", "");
        Matcher word = Pattern.compile("\\b(" + NOT_IN_IT + ")\\b").matcher(code);
        while (word.find()) {
            check(false, "the word " + word.group());
        }
        check(!code.contains("->") && !code.contains("::"), "a lambda or a method reference");
        // What a call makes is counted against the room, so all is made with the object.
        Matcher made = Pattern.compile("(?m)^.*\\bnew\\b.*$").matcher(code);
        while (made.find()) {
            String line = made.group().strip();
            check(line.startsWith("private final ") || line.startsWith("cells = "), "made by a call: " + line);
        }
    }

    public static void main(String[] args) throws IOException {
        theFace();
        theText();
        System.out.println(wrong == 0 ? "the rules are kept" : wrong + " rules are broken");
        if (wrong != 0) {
            System.exit(1);
        }
    }
}
