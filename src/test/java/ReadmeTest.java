import java.io.IOException;
import java.nio.file.Files;
import java.nio.file.Path;
import java.util.Set;
import java.util.TreeSet;
import java.util.regex.Matcher;
import java.util.regex.Pattern;
import java.util.stream.Stream;

/** That README.md holds for what lies in the project. */
public final class ReadmeTest extends Answers {
    private static final Path TESTS = Path.of("src/test/java");

    private static Set<String> names(String text, String pattern) {
        Set<String> names = new TreeSet<>();
        Matcher found = Pattern.compile(pattern).matcher(text);
        while (found.find()) {
            names.add(found.group(1));
        }
        return names;
    }

    private static void tryExample(String readme) {
        Harnessboard board = new Harnessboard();
        Matcher found = Pattern.compile(" board\\.(\\w+)\\(([^)]*)\\); +// (.*)").matcher(readme);
        int calls = 0;
        while (found.find()) {
            Call call = Call.read(found.group(1), found.group(2));
            due("the example's " + call, call.on(board), String.valueOf(Call.value(found.group(3))));
            calls++;
        }
        due("calls of the example", calls, 10);
    }

    private static void checkMethods(String readme) {
        String listed = readme.substring(readme.indexOf("- options:"), readme.indexOf("Options, points"));
        Set<String> promised = new TreeSet<>();
        for (int promise = 2; promise <= 51; promise++) {
            promised.addAll(names(Document.promise(promise).get(0), "^`\\S+ (\\w+)\\("));
        }
        due("the methods that are listed", names(listed, "`(\\w+)`"), promised);
    }

    private static void checkTests(String readme) throws IOException {
        String listed = readme.substring(readme.indexOf("- `ExamplesTest`"));
        Set<String> lying = new TreeSet<>();
        try (Stream<Path> files = Files.list(TESTS)) {
            files.forEach(file -> lying.add(file.getFileName().toString().replace(".java", "")));
        }
        due("the classes of the tests that are listed", names(listed, "`([A-Z][a-z]\\w*)`"), lying);
    }

    public static void main(String[] args) throws IOException {
        String readme = Files.readString(Path.of("README.md"));
        tryExample(readme);
        checkMethods(readme);
        checkTests(readme);
        end();
    }
}
