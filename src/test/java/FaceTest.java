import java.lang.reflect.Constructor;
import java.lang.reflect.Field;
import java.lang.reflect.Method;
import java.lang.reflect.Modifier;
import java.nio.file.Files;
import java.nio.file.Path;
import java.util.ArrayList;
import java.util.Arrays;
import java.util.HashSet;
import java.util.List;
import java.util.Set;
import java.util.TreeSet;
import java.util.regex.Matcher;
import java.util.regex.Pattern;
import java.util.stream.Collectors;

/** "The public face" of the document, and the rules of LANGUAGE.md that a text search can tell. */
public final class FaceTest {
    private static final Path SOURCE = Path.of("src/main/java/PrecedentHall.java");
    private static final Path DOCUMENT = Path.of("../shared/DOC.md");

    private FaceTest() {
    }

    public static void main(String[] args) throws Exception {
        Set<String> own = new TreeSet<>();
        Set<String> names = new HashSet<>();
        for (Method method : PrecedentHall.class.getDeclaredMethods()) {
            if (Modifier.isPrivate(method.getModifiers()) || method.isSynthetic()) {
                continue;
            }
            own.add(signature(method));
            names.add(method.getName());
        }
        Checks.due("the methods of the face", own, documented());
        Checks.due("the number of methods", own.size(), 33);
        otherMembers();
        privateNames(PrecedentHall.class, names);
        for (Class<?> inner : PrecedentHall.class.getDeclaredClasses()) {
            Checks.due(inner + " is static", Modifier.isStatic(inner.getModifiers()), true);
            Checks.due(inner + " is public", Modifier.isPublic(inner.getModifiers()), false);
            privateNames(inner, names);
        }
        source();
        throwsAndCalls();
        sizes();
        Checks.finish();
    }

    private static String signature(Method method) {
        String parameters = Arrays.stream(method.getParameterTypes())
                .map(Class::getSimpleName).collect(Collectors.joining(" "));
        String thrown = Arrays.stream(method.getExceptionTypes())
                .map(Class::getSimpleName).collect(Collectors.joining(" "));
        return Modifier.toString(method.getModifiers()) + " " + method.getReturnType() + " "
                + method.getName() + "(" + parameters + ") " + thrown;
    }

    private static Set<String> documented() throws Exception {
        Pattern line = Pattern.compile(
                "    (public \\w+) (\\w+)\\(([^)]*)\\)(?: throws (.*))?;");
        Set<String> all = new TreeSet<>();
        for (String text : Files.readAllLines(DOCUMENT)) {
            Matcher found = line.matcher(text);
            if (found.matches()) {
                String parameters = Arrays.stream(found.group(3).split(", "))
                        .map(part -> part.split(" ")[0]).collect(Collectors.joining(" "));
                String thrown = found.group(4) == null ? "" : found.group(4).replace(",", "");
                all.add(found.group(1) + " " + found.group(2) + "(" + parameters + ") " + thrown);
            }
        }
        return all;
    }

    private static void otherMembers() {
        int modifiers = PrecedentHall.class.getModifiers();
        Checks.due("public and final", Modifier.toString(modifiers), "public final");
        Constructor<?>[] constructors = PrecedentHall.class.getDeclaredConstructors();
        Checks.due("one constructor", constructors.length, 1);
        Checks.due("the constructor", constructors[0].toString(), "public PrecedentHall()");
        for (Field field : PrecedentHall.class.getDeclaredFields()) {
            Checks.due(field + " is private", Modifier.isPrivate(field.getModifiers()), true);
        }
    }

    /** No method but those of the face bears a name of the face. */
    private static void privateNames(Class<?> type, Set<String> names) {
        for (Method method : type.getDeclaredMethods()) {
            boolean isFace = type == PrecedentHall.class
                    && Modifier.isPublic(method.getModifiers());
            if (!isFace) {
                Checks.due(method + " bears a name of the face", names.contains(method.getName()),
                        false);
            }
        }
    }

    private static void source() throws Exception {
        String text = Files.readString(SOURCE);
        Pattern outside = Pattern.compile("->|::|\\b(try|catch|finally|synchronized|assert"
                + "|package|native|System|Thread|Random|equals|hashCode|\\w+Exact)\\b");
        Matcher found = outside.matcher(text);
        Checks.due("the program holds", found.find() ? found.group() : "nothing", "nothing");
        Set<String> imports = text.lines().filter(row -> row.startsWith("import "))
                .collect(Collectors.toSet());
        Checks.due("imports", imports, Set.of("import java.util.ArrayList;",
                "import java.util.NoSuchElementException;"));
        Checks.due("signs 1 to 127", text.chars().allMatch(sign -> sign > 0 && sign < 128), true);
    }

    /** Rules 4 and 6: each throw is one of the forms, each call is an own one or of the library. */
    private static void throwsAndCalls() throws Exception {
        String text = Files.readString(SOURCE);
        Pattern form = Pattern.compile("throw new (IllegalStateException|IllegalArgumentException"
                + "|IndexOutOfBoundsException|ArithmeticException|UnsupportedOperationException"
                + "|NoSuchElementException|RuntimeException)\\((\"[^\"+]*\")?\\);");
        Checks.due("throws of another form", number(text, Pattern.compile("\\bthrow\\b")),
                number(text, form));
        Set<String> own = new HashSet<>(Set.of("add", "get", "size", "max", "min", "bitCount"));
        for (Class<?> type : classes()) {
            for (Method method : type.getDeclaredMethods()) {
                own.add(method.getName());
            }
            Checks.due(type + " has its own toString", own.contains("toString"), false);
        }
        Matcher call = Pattern.compile("\\.(\\w+)\\(").matcher(text);
        while (call.find()) {
            Checks.due("a call of " + call.group(1), own.contains(call.group(1)), true);
        }
    }

    private static int number(String text, Pattern sought) {
        return (int) sought.matcher(text).results().count();
    }

    private static List<Class<?>> classes() {
        List<Class<?>> all = new ArrayList<>(List.of(PrecedentHall.class.getDeclaredClasses()));
        all.add(PrecedentHall.class);
        return all;
    }

    /** Rules 3, 5 and 11: the kinds of the fields, and how many there may be of each thing. */
    private static void sizes() throws Exception {
        List<Class<?>> classes = classes();
        Checks.due("more than 12 classes", classes.size() > 12, false);
        for (Class<?> type : classes) {
            int fields = 0;
            for (Field field : type.getDeclaredFields()) {
                boolean isStatic = Modifier.isStatic(field.getModifiers());
                boolean isFinal = Modifier.isFinal(field.getModifiers());
                Checks.due(field + " is static and not final", isStatic && !isFinal, false);
                Checks.due(field + " is of a kind that is taken",
                        isTaken(field.getType(), isStatic, classes), true);
                fields += isStatic ? 0 : 1;
            }
            Checks.due("more than 20 fields of " + type, fields > 20, false);
            for (Method method : type.getDeclaredMethods()) {
                Checks.due("more than 7 parameters of " + method,
                        method.getParameterCount() > 7, false);
            }
            for (Constructor<?> constructor : type.getDeclaredConstructors()) {
                Checks.due("more than 7 parameters of " + constructor,
                        constructor.getParameterCount() > 7, false);
            }
        }
        methodsAreShort();
    }

    private static boolean isTaken(Class<?> type, boolean isStatic, List<Class<?>> classes) {
        Set<Class<?>> constants = Set.of(int.class, long.class, boolean.class, char.class,
                String.class, int[].class, long[].class, char[].class, byte[].class);
        return constants.contains(type)
                || !isStatic && (classes.contains(type) || type == ArrayList.class);
    }

    /** A method begins in a line with its name and brackets, and ends with a brace below it. */
    private static void methodsAreShort() throws Exception {
        int begun = -1;
        String end = "";
        int found = 0;
        List<String> rows = Files.readAllLines(SOURCE);
        for (int i = 0; i < rows.size(); i++) {
            String row = rows.get(i);
            boolean isHead = row.matches("( {4}| {8})(\\w[^=;]*|)\\w+\\([^=;]*");
            if (begun < 0 && isHead && !row.contains("return ")) {
                begun = i;
                end = row.startsWith("        ") ? "        }" : "    }";
            } else if (begun >= 0 && row.equals(end)) {
                Checks.due("line " + (begun + 1) + ", longer than 60 lines", i - begun > 60, false);
                begun = -1;
                found++;
            }
        }
        int declared = 0;
        for (Class<?> type : classes()) {
            declared += type.getDeclaredMethods().length + type.getDeclaredConstructors().length;
        }
        Checks.due("methods and constructors that were looked at", found, declared);
    }
}
