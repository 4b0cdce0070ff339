import java.io.IOException;
import java.nio.file.Files;
import java.nio.file.Path;
import java.util.Arrays;
import java.util.List;
import java.util.Map;
import java.util.TreeMap;

/** The document's sentences, and which of them a test has named: none may stay without a test. */
final class Book {
    /** The section of what stands ahead of the promises. */
    static final int WORDS = 0;

    private static final Path DOCUMENT = Path.of("../shared/DOC.md");
    /** Headings, signatures, and what tells how the document itself is ordered. */
    private static final String NOT_ASKED = "#.*|==.*|----.*|`.*|The constructor and the methods follow.*";
    private static final char NAMED = '\0';

    private final Due due;
    private final Map<Integer, StringBuilder> sections = new TreeMap<>();
    private final Map<Integer, String> open = new TreeMap<>();

    Book(Due due) {
        this.due = due;
        for (String line : lines()) {
            read(line);
        }
        sections.forEach((number, text) -> open.put(number, text.toString()));
    }

    private int reading = WORDS;
    private boolean behindPromises;
    private boolean inFace;

    private static List<String> lines() {
        try {
            return Files.readAllLines(DOCUMENT);
        } catch (IOException missing) {
            throw new IllegalStateException("no document at " + DOCUMENT, missing);
        }
    }

    private void read(String line) {
        if (line.startsWith("## Promise ")) {
            reading = Integer.parseInt(line.replaceAll("\\D*(\\d+):.*", "$1"));
        }
        behindPromises |= line.equals("## Not promised");
        if (line.startsWith("```")) {
            inFace = !inFace;
        }
        if (!behindPromises && !inFace && !line.matches(NOT_ASKED)) {
            sections.computeIfAbsent(reading, number -> new StringBuilder()).append(line.trim()).append('\n');
        }
    }

    int promises() {
        return sections.size() - 1;
    }

    /** The sentence stands in that section word by word, and a test of it follows. */
    void named(int section, String sentence) {
        if (!sections.get(section).toString().contains(sentence)) {
            due.tell("section " + section + " does not say: " + sentence);
        }
        char[] marks = new char[sentence.length()];
        Arrays.fill(marks, NAMED);
        open.put(section, open.get(section).replace(sentence, new String(marks)));
    }

    /** A parameter's row has no test of its own, unless it names an edge: then a test names it. */
    void end() {
        open.forEach((section, text) -> {
            for (String line : text.split("\n")) {
                for (String rest : line.split(String.valueOf(NAMED) + "+")) {
                    if (!rest.isBlank() && !rest.startsWith("- `")) {
                        due.tell("no test names in section " + section + ": " + rest);
                    }
                }
            }
        });
    }
}
