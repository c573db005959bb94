import java.io.IOException;
import java.nio.file.Files;
import java.nio.file.Path;
import java.util.ArrayList;
import java.util.LinkedHashSet;
import java.util.List;
import java.util.Set;
import java.util.regex.Pattern;

/**
 * ../shared/DOC.md: its face, its examples, and its sentences, promise by promise, without their last
 * sign. What stands between two semicolons is a sentence too; a line of a list is one sentence.
 */
final class Document {
    static final int PROMISES = 27;

    /** In place of a promise's number: "What it is" and "Description". */
    static final int DESCRIPTION = 0;

    private static final Path PLACE = Path.of("../shared/DOC.md");
    private static final List<Set<String>> SENTENCES = read();

    private Document() {
    }

    static Set<String> sentences(int promise) {
        return SENTENCES.get(promise);
    }

    /** The Java lines of "The public face". */
    static String face() {
        return found("(?s)## The public face\\s+```java\\n(.*?)```").get(0);
    }

    /** The signatures with which the promises begin, without public. */
    static List<String> signatures() {
        return found("(?m)^## Promise \\d+: .*\\s+`(.*)`$");
    }

    /** The constants as the description lists them, "NAME = 1, NAME = 2". */
    static List<String> constants() {
        return found("(?m)^- `([A-Z_]+ = .*)`: ");
    }

    /** The calls of the worked examples, with their results. */
    static List<String> examples() {
        return found("(?m)^\\d+\\. [^:]*: (.*)\\.$");
    }

    /** What the pattern's group holds, wherever the document has the pattern. */
    private static List<String> found(String pattern) {
        return Pattern.compile(pattern).matcher(text()).results().map(m -> m.group(1)).toList();
    }

    private static List<Set<String>> read() {
        List<Set<String>> all = new ArrayList<>();
        for (int promise = 0; promise <= PROMISES; promise++) {
            all.add(new LinkedHashSet<>());
        }
        for (String section : text().split("(?m)^## ")) {
            String title = section.lines().findFirst().orElse("");
            String body = section.substring(title.length());
            if (title.startsWith("Promise ")) {
                int promise = Integer.parseInt(title.replaceAll("Promise (\\d+):.*", "$1"));
                addSentences(all.get(promise), body);
            } else if (title.equals("What it is")) {
                addSentences(all.get(DESCRIPTION), body);
            } else if (title.equals("Description")) {
                // ExamplesTest runs the examples, FaceTest looks at the constants behind them.
                addSentences(all.get(DESCRIPTION), body.replaceAll("(?s)\\nExamples: .*", ""));
            }
        }
        return all;
    }

    private static void addSentences(Set<String> found, String body) {
        // Rulers like "---- files" and the signature, which stands in `..` on a line of its own.
        String text = body.replaceAll("(?m)^----.*$|^`[^`]*`$", "");
        for (String paragraph : text.split("\\n\\s*\\n|\\n(?=- )")) {
            String line = paragraph.replace("`", "").strip().replaceAll("\\s+", " ");
            boolean title = line.equals(line.toUpperCase());
            String[] sentences = line.startsWith("- ") ? new String[] {line.substring(2)} : line.split("(?<=[.;]) ");
            for (String sentence : sentences) {
                if (!sentence.isBlank() && !title) {
                    found.add(sentence.replaceAll("[.;:]$", ""));
                }
            }
        }
    }

    private static String text() {
        try {
            return Files.readString(PLACE);
        } catch (IOException e) {
            throw new IllegalStateException("can't read " + PLACE, e);
        }
    }
}
