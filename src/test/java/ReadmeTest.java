import java.io.IOException;
import java.nio.file.Files;
import java.nio.file.Path;
import java.util.List;
import java.util.Set;
import java.util.TreeSet;
import java.util.regex.Matcher;
import java.util.regex.Pattern;
import java.util.stream.Collectors;
import java.util.stream.Stream;

/** README.md's calls answer what it says beside them, each method is among them, and each test is named there. */
public final class ReadmeTest {
    private static final Path README = Path.of("README.md");
    private static final Path TESTS = Path.of("src/test/java");
    private static final String MAKES = "Checkrow x = new Checkrow();";
    private static final String THROWS = "throws ";
    /** A call, behind it its answer, and perhaps a reason or a promise's number. */
    private static final Pattern CALL = Pattern.compile(
            "x\\.((\\w+)\\([-\\d, ]*\\)); +// (\"[^\"]*\"|throws \\w+|true|false|-?\\d+)(:.*| \\(.*)?");

    private final Due due = new Due();
    private final Set<String> shown = new TreeSet<>();
    private Run run;

    public static void main(String[] args) throws IOException {
        ReadmeTest test = new ReadmeTest();
        List<String> lines = Files.readAllLines(README);
        test.makeCalls(lines);
        test.showsEachMethod();
        test.namesEachTest(String.join("\n", lines));
        test.due.end();
    }

    private void makeCalls(List<String> lines) {
        boolean inCalls = false;
        for (String line : lines) {
            if (line.startsWith("```")) {
                inCalls = line.equals("```java");
                run = null;
            } else if (inCalls && line.startsWith(MAKES)) {
                run = new Run(due, "README.md");
            } else if (inCalls && !line.isBlank() && !line.startsWith("//")) {
                makeCall(line);
            }
        }
    }

    private void makeCall(String line) {
        Matcher call = CALL.matcher(line);
        if (run == null || !call.matches()) {
            due.tell("README.md shows what is no call with its answer: " + line);
            return;
        }
        shown.add(call.group(2));
        run.same(written(run.calls(call.group(1))), call.group(3));
    }

    /** An answer as README.md writes it. */
    private static String written(Object answer) {
        if (!(answer instanceof String text)) {
            return String.valueOf(answer);
        }
        return text.startsWith("throws.") ? THROWS + text.substring(THROWS.length()) : "\"" + text + "\"";
    }

    private void showsEachMethod() {
        Set<String> names = Calls.ALL.stream().map(call -> call.name).collect(Collectors.toCollection(TreeSet::new));
        due.same("the methods that README.md shows", shown, names);
    }

    private void namesEachTest(String text) throws IOException {
        try (Stream<Path> files = Files.list(TESTS)) {
            files.map(file -> file.getFileName().toString().replace(".java", ""))
                    .filter(name -> name.endsWith("Test") && !text.contains("`" + name + "`"))
                    .forEach(name -> due.tell("README.md does not name " + name));
        }
    }
}
