import java.io.IOException;
import java.nio.file.Files;
import java.nio.file.Path;
import java.util.LinkedHashMap;
import java.util.Map;

/**
 * The document's Description and promises, sentence by sentence. A test tells which sentence its answers hold;
 * the sentence has to stand there, answers have to be looked at for it, and in the end none may be left over.
 */
final class Sentences {
    private static final Path DOCUMENT = Path.of("../shared/DOC.md");

    private final Due due;
    private final Map<String, String> sections = new LinkedHashMap<>();
    private final Map<String, String> left = new LinkedHashMap<>();
    private String current = "";
    private int lookedBefore;

    Sentences(Due due) {
        this.due = due;
        String heading = "";
        for (String line : lines()) {
            if (line.startsWith("## ")) {
                heading = line.substring(3);
            } else if (isHeldToTests(heading) && isSentence(line)) {
                sections.merge(heading, line, (before, more) -> before + "\n" + more);
            }
        }
        left.putAll(sections);
    }

    private static Iterable<String> lines() {
        try {
            return Files.readAllLines(DOCUMENT);
        } catch (IOException e) {
            throw new IllegalStateException("the document cannot be read", e);
        }
    }

    private static boolean isHeldToTests(String heading) {
        return heading.equals("What it is") || heading.equals("Description") || heading.startsWith("Promise ");
    }

    /** Signatures, arguments and titles within are no sentences; nor is what tells of the document as a whole. */
    private static boolean isSentence(String line) {
        boolean isArgument = line.startsWith("- ");
        boolean isTitle = line.startsWith("----") || line.matches("\\d\\. .*");
        boolean isOfTheWhole = line.startsWith("Spans of time, each a whole number of nanos")
                || line.startsWith("The constructor and the methods follow");
        return !line.isBlank() && !line.startsWith("`") && !isArgument && !isTitle && !isOfTheWhole;
    }

    /** The answers that follow hold this sentence, until another one is told. */
    void says(String heading, String words) {
        endOne();
        current = heading + " says: " + words;
        due.answer(current, sections.getOrDefault(heading, "").contains(words), true);
        String before = left.getOrDefault(heading, "");
        int at = before.indexOf(words);
        if (at >= 0) {
            left.put(heading, before.substring(0, at) + before.substring(at + words.length()));
        }
        lookedBefore = due.looked();
    }

    private void endOne() {
        if (!current.isEmpty()) {
            due.answer(current + ": answers were looked at", due.looked() > lookedBefore, true);
        }
    }

    void close() {
        endOne();
        due.answer("sections of the document", sections.size(), 57);
        for (Map.Entry<String, String> section : left.entrySet()) {
            due.answer("what no test holds of " + section.getKey(), section.getValue().strip(), "");
        }
    }
}
