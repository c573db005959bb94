import java.util.List;

/** The worked examples of the document, as it has them. */
public final class ExamplesTest {
    private static final int EXAMPLES = 4;

    public static void main(String[] args) {
        List<String> examples = Document.examples();
        Script.due("document", "its examples", examples.size(), EXAMPLES);
        for (int i = 0; i < examples.size(); i++) {
            Script.run("example " + (i + 1), examples.get(i));
        }
        Script.end();
    }
}
