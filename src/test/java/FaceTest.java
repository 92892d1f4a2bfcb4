import java.lang.reflect.Constructor;
import java.lang.reflect.Field;
import java.lang.reflect.Method;
import java.lang.reflect.Modifier;
import java.nio.file.Files;
import java.nio.file.Path;
import java.util.ArrayList;
import java.util.HashSet;
import java.util.List;
import java.util.Set;
import java.util.regex.Matcher;
import java.util.regex.Pattern;

/** The class has the face that the document prints, no member beside it, and keeps what LANGUAGE.md says of text. */
public final class FaceTest {
    private static final Path SHARED = Path.of(System.getProperty("shared", "../shared"));
    private static final Path MAIN = Path.of("src/main/java/Spicebourse.java");

    public static void main(String[] args) throws Exception {
        checkFace();
        checkNames();
        checkSizes();
        checkWords();
        Runs.end();
    }

    private static void checkFace() throws Exception {
        Set<String> wanted = new HashSet<>();
        Matcher lines = Pattern.compile("(?m)^    public (.*);$").matcher(Files.readString(SHARED.resolve("DOC.md")));
        while (lines.find()) {
            wanted.add(lines.group(1));
        }
        Set<String> found = new HashSet<>();
        for (Method method : Spicebourse.class.getDeclaredMethods()) {
            if (!Modifier.isPrivate(method.getModifiers())) {
                found.add(header(method));
            }
        }
        for (Constructor<?> made : Spicebourse.class.getDeclaredConstructors()) {
            found.add("Spicebourse()");
            Runs.due("parameters of the constructor", made.getParameterCount(), 0);
            Runs.due("the constructor is public", Modifier.isPublic(made.getModifiers()), true);
        }
        Runs.due("the face", new java.util.TreeSet<>(found), new java.util.TreeSet<>(withoutNames(wanted)));
        Runs.due("the class is final", Modifier.isFinal(Spicebourse.class.getModifiers()), true);
        for (Field field : Spicebourse.class.getDeclaredFields()) {
            Runs.due("private is " + field.getName(), Modifier.isPrivate(field.getModifiers()), true);
        }
    }

    private static String header(Method method) {
        List<String> types = new ArrayList<>();
        for (Class<?> type : method.getParameterTypes()) {
            types.add(type.getSimpleName());
        }
        List<String> thrown = new ArrayList<>();
        for (Class<?> type : method.getExceptionTypes()) {
            thrown.add(type.getSimpleName());
        }
        return method.getReturnType().getSimpleName() + " " + method.getName() + "(" + String.join(", ", types) + ")"
                + (thrown.isEmpty() ? "" : " throws " + String.join(", ", thrown));
    }

    private static Set<String> withoutNames(Set<String> headers) {
        Set<String> bare = new HashSet<>();
        for (String header : headers) {
            int open = header.indexOf('(');
            int close = header.indexOf(')');
            String inside = header.substring(open + 1, close).replaceAll("(\\w+) \\w+", "$1");
            bare.add(header.substring(0, open + 1) + inside + header.substring(close));
        }
        return bare;
    }

    private static void checkNames() {
        Set<String> names = new HashSet<>();
        for (Method method : Spicebourse.class.getDeclaredMethods()) {
            if (Modifier.isPublic(method.getModifiers())) {
                names.add(method.getName());
            }
        }
        for (Class<?> inside : Spicebourse.class.getDeclaredClasses()) {
            Runs.due(inside + " is static", Modifier.isStatic(inside.getModifiers()), true);
            Runs.due(inside + " is public", Modifier.isPublic(inside.getModifiers()), false);
            for (Method method : inside.getDeclaredMethods()) {
                Runs.due("new is the name " + method.getName(), names.contains(method.getName()), false);
            }
        }
        for (Method method : Spicebourse.class.getDeclaredMethods()) {
            boolean isFree = Modifier.isPublic(method.getModifiers()) || !names.contains(method.getName());
            Runs.due("free is the name " + method.getName(), isFree, true);
        }
    }

    /** Rules 5, 11 and 12: what is static is constant, and classes, fields and parameters are few. */
    private static void checkSizes() {
        List<Class<?>> classes = new ArrayList<>(List.of(Spicebourse.class.getDeclaredClasses()));
        classes.add(Spicebourse.class);
        Runs.due("some twelve classes at most", classes.size() <= 12, true);
        for (Class<?> one : classes) {
            int kept = 0;
            for (Field field : one.getDeclaredFields()) {
                boolean isStatic = Modifier.isStatic(field.getModifiers());
                kept += isStatic ? 0 : 1;
                Runs.due("constant if static is " + field, !isStatic || isConstant(field), true);
            }
            Runs.due("some twenty fields at most in " + one, kept <= 20, true);
            for (Method method : one.getDeclaredMethods()) {
                Runs.due("seven parameters at most in " + method, method.getParameterCount() <= 7, true);
            }
            for (Constructor<?> made : one.getDeclaredConstructors()) {
                Runs.due("seven parameters at most in " + made, made.getParameterCount() <= 7, true);
            }
        }
    }

    private static boolean isConstant(Field field) {
        boolean isNumber = field.getType() == int.class || field.getType() == long.class;
        return isNumber && Modifier.isFinal(field.getModifiers());
    }

    private static void checkWords() throws Exception {
        String source = Files.readString(MAIN);
        String[] banned = {"catch", "finally", "synchronized", "assert ", "->", "::", "instanceof", "Exact(",
            "System.", "Random", "HashMap", "Iterator", "hashCode", "toString() {", "equals(Object", "package "};
        for (String word : banned) {
            Runs.due("the source says " + word, source.contains(word), false);
        }
        for (char sign : source.toCharArray()) {
            if (sign > 126 || (sign < 32 && sign != '\n')) {
                Runs.due("a sign of the source", (int) sign, 32);
            }
        }
    }
}
