import java.io.File;
import java.lang.reflect.Method;
import java.lang.reflect.Modifier;
import java.nio.file.Files;
import java.nio.file.Path;
import java.util.stream.Collectors;

/** README.md: its example answers as it says, and it names every call and every test. */
public final class ReadmeTest {
    private static final Path PAGE = Path.of("README.md");
    private static final Path TESTS = Path.of("src/test/java");

    private ReadmeTest() {
    }

    public static void main(String[] args) throws Exception {
        String page = Files.readString(PAGE);
        example();
        int begin = page.indexOf("```java\n") + 8;
        Checks.due("the example", page.substring(begin, page.indexOf("```", begin)), ownExample());
        for (Method method : PrecedentHall.class.getDeclaredMethods()) {
            if (Modifier.isPublic(method.getModifiers())) {
                Checks.due("the call " + method.getName() + " is told",
                        page.contains("`" + method.getName() + "("), true);
            }
        }
        for (File file : TESTS.toFile().listFiles((folder, name) -> name.endsWith("Test.java"))) {
            String name = file.getName().replace(".java", "");
            Checks.due("the test " + name + " is told", page.contains("| `" + name + "` |"), true);
        }
        Checks.finish();
    }

    private static void example() {
        // the example begins
        PrecedentHall hall = new PrecedentHall();
        int reporter = hall.addUser(5);
        int accused = hall.addUser(5);
        int voter = hall.addUser(5);
        hall.addRule(0, true, 1, 10, 1);               // kind 0 is forbidden from day 1 on, for 10 days
        hall.pass(1);
        int report = hall.file(reporter, accused, 1, 80);
        hall.vote(report, voter, true);
        char outcome = hall.decide(report);            // 'g': guilty
        int until = hall.sanctionedUntil(accused);     // 11
        int underAppeal = hall.appeal(report);         // 1, and the sanction has ended
        hall.vote(report, voter, false);
        char anew = hall.decide(report);               // 'i': innocent
        boolean reversed = hall.wasReversed(report);   // true
        // the example ends
        Checks.due("outcome", outcome, 'g');
        Checks.due("until", until, 11);
        Checks.due("underAppeal", underAppeal, 1);
        Checks.due("anew", anew, 'i');
        Checks.due("reversed", reversed, true);
        Checks.due("the sanction has ended", hall.sanctions(accused), 0);
    }

    /** The lines of the example above, as they stand in this file. */
    private static String ownExample() throws Exception {
        return Files.readAllLines(TESTS.resolve("ReadmeTest.java")).stream()
                .dropWhile(row -> !row.endsWith(" // the example begins")).skip(1)
                .takeWhile(row -> !row.endsWith(" // the example ends"))
                .map(row -> row.substring(8) + "\n").collect(Collectors.joining());
    }
}
