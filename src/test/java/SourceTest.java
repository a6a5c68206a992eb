import java.io.IOException;
import java.nio.file.Files;
import java.nio.file.Path;
import java.util.List;
import java.util.regex.Matcher;
import java.util.regex.Pattern;
import java.util.stream.Collectors;
import java.util.stream.Stream;

/** What can be seen in the program's text of ../shared/LANGUAGE.md: one file, and none of what the rules leave out. */
public final class SourceTest {
    private static final Path FOLDER = Path.of("src/main/java");
    private static final String[] LEFT_OUT = {
        "\\bpackage\\b", "\\bimport\\b", "->", "::", "\\btry\\b", "\\bcatch\\b", "\\bfinally\\b", "\\bsynchronized\\b",
        "\\bassert\\b", "\\bprotected\\b", "\\bjava\\.", "\\bSystem\\.(?!arraycopy)", "\\w+Exact\\b", "\\bMath\\.random\\b",
        "\\bstatic\\s*\\{", "\\bequals\\b", "\\bhashCode\\b", "\\btoString\\b", "while \\(true\\)", "for \\(;;\\)"};
    private static final int MOST_CLASSES = 12;
    private static final int MOST_LINES_OF_A_METHOD = 60;
    private static final int MOST_PARAMETERS = 7;
    private static final Due due = new Due();

    public static void main(String[] args) throws IOException {
        try (Stream<Path> files = Files.walk(FOLDER)) {
            due.isText("the files of the program",
                    files.filter(Files::isRegularFile).map(Path::toString).collect(Collectors.joining(" ")),
                    FOLDER.resolve("DrawStreams.java").toString());
        }
        String text = Files.readString(FOLDER.resolve("DrawStreams.java"));
        String code = text.replaceAll("(?s)/\\*.*?\\*/", "").replaceAll("//.*", "").replaceAll("\"[^\"]*\"", "\"\"");
        for (String left : LEFT_OUT) {
            due.isTrue("nothing like " + left, !Pattern.compile(left).matcher(code).find());
        }
        due.isTrue("at most so many classes", count("\\bclass \\w+", code) <= MOST_CLASSES);
        due.is("each throw makes what it throws", count("\\bthrow\\b", code),
                count("throw new (ArithmeticException|ArrayIndexOutOfBoundsException)\\(\"\"\\);", code));
        methods(text.lines().collect(Collectors.toList()));
        due.end();
    }

    private static int count(String pattern, String code) {
        Matcher found = Pattern.compile(pattern).matcher(code);
        int count = 0;
        while (found.find()) {
            count++;
        }
        return count;
    }

    /** A method begins with a line that ends in a brace behind its parameters, and ends at a brace as deep as that. */
    private static void methods(List<String> lines) {
        Pattern head = Pattern.compile("^( +)(?:[a-z]+ )*[A-Za-z\\[\\]]+ \\w+\\(([^()]*)\\)(?: throws \\w+)? \\{$");
        for (int i = 0; i < lines.size(); i++) {
            Matcher met = head.matcher(lines.get(i));
            if (met.matches()) {
                int end = i;
                while (!lines.get(end).equals(met.group(1) + "}")) {
                    end++;
                }
                due.isTrue("not too long: " + lines.get(i), end - i < MOST_LINES_OF_A_METHOD);
                due.isTrue("not too many parameters: " + lines.get(i), met.group(2).split(",").length <= MOST_PARAMETERS);
            }
        }
    }
}
