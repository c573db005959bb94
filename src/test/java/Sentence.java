import java.util.ArrayList;
import java.util.HashMap;
import java.util.HashSet;
import java.util.List;
import java.util.Map;
import java.util.Set;
import java.util.regex.Matcher;
import java.util.regex.Pattern;

/** A sentence of the document, and the tests that hold it; each test is named by it. */
final class Sentence {
    private static final Pattern ERROR_SENTENCE = Pattern.compile("([A-Z_]+) if .*");
    private static final Map<String, Sentence> TESTED = new HashMap<>();
    private static final Set<String> WITHOUT_BOUNDARY = new HashSet<>();

    private final String name;

    /** The answers that were due in the sentence's tests. */
    private final Set<String> due = new HashSet<>();

    private Sentence(String name) {
        this.name = name;
    }

    /** The sentence of a promise, or of Document.DESCRIPTION. */
    static Sentence of(int promise, String text) {
        return TESTED.computeIfAbsent(known(promise, text), Sentence::new);
    }

    /** Sentences that say what something is called or what a call is for, and name no boundary. */
    static void withoutBoundary(int promise, String... texts) {
        for (String text : texts) {
            WITHOUT_BOUNDARY.add(known(promise, text));
        }
    }

    /** The calls have these answers on a new object. */
    Sentence holds(String which, String... calls) {
        return holdsOn(new ChangeImpact(), which, calls);
    }

    Sentence holdsOn(ChangeImpact object, String which, String... calls) {
        for (String text : calls) {
            Script.statements(text).forEach(statement -> due.add(Script.dueOf(statement)));
        }
        Script.on(object, name + " " + which, calls);
        return this;
    }

    /** Each of the calls alone is refused behind the others, and leaves the state as it was. */
    Sentence refuses(String which, String before, String refused) {
        for (String statement : Script.statements(refused)) {
            String error = Script.dueOf(statement);
            if ((Integer) Call.value(error) >= 0 || error.equals("NONE")) {
                throw new IllegalStateException("not an error: " + statement);
            }
        }
        return leaves(which, before, refused);
    }

    /** Each of the calls alone has its answer behind the others, and leaves the state as it was. */
    Sentence leaves(String which, String before, String calls) {
        holds(which, before);
        List<String> without = callsOf(before);
        for (String statement : Script.statements(calls)) {
            holds(which, before, statement);
            List<String> with = new ArrayList<>(without);
            with.add(Script.callOf(statement));
            same(which + ", behind " + statement, with, without);
        }
        return this;
    }

    /** All that later calls show is the same behind these calls as behind the others. */
    Sentence same(String which, List<String> calls, List<String> others) {
        List<List<String>> got = Looks.behind(calls);
        List<List<String>> want = Looks.behindOnce(others);
        for (int portion = 0; portion < got.size(); portion++) {
            List<String> looks = Looks.all().get(portion);
            for (int i = 0; i < looks.size(); i++) {
                String what = looks.get(0) + " .. " + looks.get(i);
                Script.due(name + " " + which, what, got.get(portion).get(i), want.get(portion).get(i));
            }
        }
        return this;
    }

    static List<String> callsOf(String text) {
        return Script.statements(text).stream().map(Script::callOf).toList();
    }

    /** Every sentence of the document has a test or names no boundary; one of an error has seen it. */
    static void allAreHeld() {
        for (int promise = 0; promise <= Document.PROMISES; promise++) {
            for (String text : Document.sentences(promise)) {
                String name = nameOf(promise, text);
                boolean tested = TESTED.containsKey(name);
                Script.due(name, "is held by a test", Boolean.toString(tested || WITHOUT_BOUNDARY.contains(name)), "true");
                Matcher error = ERROR_SENTENCE.matcher(text);
                if (error.matches()) {
                    boolean seen = tested && TESTED.get(name).due.contains(error.group(1));
                    Script.due(name, "has a test with " + error.group(1), Boolean.toString(seen), "true");
                }
            }
        }
    }

    private static String known(int promise, String text) {
        if (!Document.sentences(promise).contains(text)) {
            throw new IllegalStateException("the document does not say: " + nameOf(promise, text));
        }
        return nameOf(promise, text);
    }

    private static String nameOf(int promise, String text) {
        return (promise == Document.DESCRIPTION ? "description" : "promise " + promise) + " \"" + text + "\"";
    }
}
