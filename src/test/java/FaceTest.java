import java.lang.reflect.Constructor;
import java.lang.reflect.Field;
import java.lang.reflect.Method;
import java.lang.reflect.Modifier;
import java.nio.file.Files;
import java.nio.file.Path;
import java.util.Arrays;
import java.util.HashSet;
import java.util.Set;
import java.util.TreeSet;
import java.util.regex.Matcher;
import java.util.regex.Pattern;
import java.util.stream.Collectors;

/** "The public face" of the document, and the rules of LANGUAGE.md that a text search can tell. */
public final class FaceTest {
    private static final Path SOURCE = Path.of("src/main/java/PrecedentHall.java");
    private static final Path DOCUMENT = Path.of("../shared/DOC.md");

    private FaceTest() {
    }

    public static void main(String[] args) throws Exception {
        Set<String> own = new TreeSet<>();
        Set<String> names = new HashSet<>();
        for (Method method : PrecedentHall.class.getDeclaredMethods()) {
            if (Modifier.isPrivate(method.getModifiers()) || method.isSynthetic()) {
                continue;
            }
            own.add(signature(method));
            names.add(method.getName());
        }
        Checks.due("the methods of the face", own, documented());
        Checks.due("the number of methods", own.size(), 33);
        otherMembers();
        privateNames(PrecedentHall.class, names);
        for (Class<?> inner : PrecedentHall.class.getDeclaredClasses()) {
            Checks.due(inner + " is static", Modifier.isStatic(inner.getModifiers()), true);
            Checks.due(inner + " is public", Modifier.isPublic(inner.getModifiers()), false);
            privateNames(inner, names);
        }
        source();
        Checks.finish();
    }

    private static String signature(Method method) {
        String parameters = Arrays.stream(method.getParameterTypes())
                .map(Class::getSimpleName).collect(Collectors.joining(" "));
        String thrown = Arrays.stream(method.getExceptionTypes())
                .map(Class::getSimpleName).collect(Collectors.joining(" "));
        return Modifier.toString(method.getModifiers()) + " " + method.getReturnType() + " "
                + method.getName() + "(" + parameters + ") " + thrown;
    }

    private static Set<String> documented() throws Exception {
        Pattern line = Pattern.compile(
                "    (public \\w+) (\\w+)\\(([^)]*)\\)(?: throws (.*))?;");
        Set<String> all = new TreeSet<>();
        for (String text : Files.readAllLines(DOCUMENT)) {
            Matcher found = line.matcher(text);
            if (found.matches()) {
                String parameters = Arrays.stream(found.group(3).split(", "))
                        .map(part -> part.split(" ")[0]).collect(Collectors.joining(" "));
                String thrown = found.group(4) == null ? "" : found.group(4).replace(",", "");
                all.add(found.group(1) + " " + found.group(2) + "(" + parameters + ") " + thrown);
            }
        }
        return all;
    }

    private static void otherMembers() {
        int modifiers = PrecedentHall.class.getModifiers();
        Checks.due("public and final", Modifier.toString(modifiers), "public final");
        Constructor<?>[] constructors = PrecedentHall.class.getDeclaredConstructors();
        Checks.due("one constructor", constructors.length, 1);
        Checks.due("the constructor", constructors[0].toString(), "public PrecedentHall()");
        for (Field field : PrecedentHall.class.getDeclaredFields()) {
            Checks.due(field + " is private", Modifier.isPrivate(field.getModifiers()), true);
        }
    }

    /** No method but those of the face bears a name of the face. */
    private static void privateNames(Class<?> type, Set<String> names) {
        for (Method method : type.getDeclaredMethods()) {
            boolean isFace = type == PrecedentHall.class
                    && Modifier.isPublic(method.getModifiers());
            if (!isFace) {
                Checks.due(method + " bears a name of the face", names.contains(method.getName()),
                        false);
            }
        }
    }

    private static void source() throws Exception {
        String text = Files.readString(SOURCE);
        Pattern outside = Pattern.compile("->|::|\\b(try|catch|finally|synchronized|assert"
                + "|package|native|System|Thread|Random|equals|hashCode|\\w+Exact)\\b");
        Matcher found = outside.matcher(text);
        Checks.due("the program holds", found.find() ? found.group() : "nothing", "nothing");
        Set<String> imports = text.lines().filter(row -> row.startsWith("import "))
                .collect(Collectors.toSet());
        Checks.due("imports", imports, Set.of("import java.util.ArrayList;",
                "import java.util.NoSuchElementException;"));
        Checks.due("signs 1 to 127", text.chars().allMatch(sign -> sign > 0 && sign < 128), true);
    }
}
