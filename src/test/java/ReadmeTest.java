import java.io.IOException;
import java.lang.reflect.Method;
import java.lang.reflect.Modifier;
import java.nio.file.Files;
import java.nio.file.Path;
import java.util.List;
import java.util.stream.Collectors;

/** README.md: its example stands here word for word and does what it says; every call and every test is named in it. */
public final class ReadmeTest {
    private static final Path ITSELF = Path.of("src/test/java/ReadmeTest.java");
    private static final Due due = new Due();

    public static void main(String[] args) throws IOException {
        example();
        String readme = Files.readString(Path.of("README.md"));
        due.isTrue("README.md has the example", readme.contains("```java\n" + textOfTheExample() + "\n```"));
        for (Method m : DrawStreams.class.getDeclaredMethods()) {
            if (Modifier.isPublic(m.getModifiers())) {
                due.isTrue("README.md names " + m.getName(), readme.contains("`" + m.getName() + "("));
            }
        }
        for (String name : testNames()) {
            due.isTrue("README.md names " + name, readme.contains("`" + name + "`"));
        }
        due.isTrue("README.md says how to run the tests", readme.contains("\n.ci/run\n"));
        due.end();
    }

    private static void example() {
        // The example begins.
        DrawStreams draws = new DrawStreams();
        int key = draws.key(20261116L);                  // the key's number: 0
        int d = draws.drawer(key, 0);                    // a drawer at the first word of stream 0
        long die = draws.below(d, 6) + 1;                // 1 .. 6, each as likely as the others
        double part = draws.real(d);                     // 0 or more, below 1, by 53 bits
        int rain = draws.coin(d, 1, 3);                  // 1 once in three throws, exactly
        double bell = draws.normal(d) * 0x1p-32;         // normal() counts in parts of 2 to the -32

        int n = draws.permutation(d, 52);                // the row is now a shuffled pack
        int first = draws.at(0);                         // at(0) .. at(n - 1) read it

        draws.weight(0, 3);
        draws.weight(1, 1);
        int chosen = draws.choose(d);                    // 0 three times as often as 1

        int place = draws.secret(key, 7, 1_000_000, 123);
        int back = draws.back(key, 7, 1_000_000, place); // 123 again

        long behind = draws.told(d, 0);                  // how far the drawer has come
        draws.place(d, 0);
        long again = draws.below(d, 6) + 1;              // the same as die: a place always has its word
        // The example ends.
        due.is("key", key, 0);
        due.is("d", d, 0);
        due.isTrue("die", die >= 1 && die <= 6);
        due.isTrue("part", part >= 0 && part < 1);
        due.isTrue("rain", rain == 0 || rain == 1);
        due.isTrue("bell", bell > -10 && bell < 10);
        due.is("n", n, 52);
        due.isTrue("first", first >= 0 && first < 52);
        due.isTrue("chosen", chosen == 0 || chosen == 1);
        due.isTrue("place", place >= 0 && place < 1_000_000);
        due.is("back", back, 123);
        due.isTrue("behind", behind > 52);
        due.is("again", again, die);
    }

    private static String textOfTheExample() throws IOException {
        List<String> lines = Files.readAllLines(ITSELF);
        int begin = lines.indexOf("        // The example begins.");
        int end = lines.indexOf("        // The example ends.");
        return lines.subList(begin + 1, end).stream().map(line -> line.isEmpty() ? line : line.substring(8))
                .collect(Collectors.joining("\n"));
    }

    private static List<String> testNames() throws IOException {
        try (var files = Files.list(ITSELF.getParent())) {
            return files.map(file -> file.getFileName().toString().replace(".java", "")).sorted().collect(Collectors.toList());
        }
    }
}
