import java.util.ArrayList;
import java.util.List;
import java.util.Map;
import java.util.WeakHashMap;

/**
 * Runs calls that are written with their answers as in the document's examples, "addTarget(0,10) = 0;
 * edit(1) = 0", and prints every one whose answer is not the one that is due. An answer is a number or
 * the name of a constant; from # to the end of the line is a comment.
 */
final class Script {
    /** What an object answers to more calls than these is free, so no test may ask for it. */
    private static final int CALLS_OF_AN_OBJECT = 512;
    private static final Map<ChangeImpact, Integer> CALLS = new WeakHashMap<>();
    private static int wrong = 0;
    private static int answers = 0;

    private Script() {
    }

    /** Runs the calls on a new object. */
    static void run(String name, String... texts) {
        on(new ChangeImpact(), name, texts);
    }

    /** Runs the calls on an object that other scripts have used. */
    static void on(ChangeImpact object, String name, String... texts) {
        for (String text : texts) {
            for (String statement : statements(text)) {
                due(name, statement, answer(object, callOf(statement)), Call.value(dueOf(statement)).toString());
            }
        }
    }

    static List<String> statements(String text) {
        List<String> found = new ArrayList<>();
        for (String statement : text.replaceAll("#[^\\n]*", "").split("[;\\n]")) {
            if (!statement.isBlank()) {
                found.add(statement.strip());
            }
        }
        return found;
    }

    /** The call of a statement, without the answer that is due. */
    static String callOf(String statement) {
        return statement.substring(0, middleOf(statement));
    }

    static String dueOf(String statement) {
        return statement.substring(middleOf(statement) + " = ".length());
    }

    private static int middleOf(String statement) {
        int middle = statement.indexOf(" = ");
        if (middle < 0) {
            throw new IllegalStateException("without an answer: " + statement);
        }
        return middle;
    }

    /** The object's answer to one call, without saying which one is due. */
    static String answer(ChangeImpact object, String call) {
        if (CALLS.merge(object, 1, Integer::sum) > CALLS_OF_AN_OBJECT) {
            throw new IllegalStateException("call 513 of an object: " + call);
        }
        return Call.of(call).on(object);
    }

    static void due(String name, String what, long got, long want) {
        due(name, what, Long.toString(got), Long.toString(want));
    }

    static void due(String name, String what, String got, String want) {
        answers++;
        if (!got.equals(want)) {
            wrong++;
            System.out.println(name + ": " + what + " answered " + got + ", due is " + want);
        }
    }

    /** Ends the program with 1 if an answer was not the one that was due. */
    static void end() {
        System.out.println(wrong == 0 ? answers + " answers are as due" : wrong + " of " + answers + " are not as due");
        if (wrong != 0 || answers == 0) {
            System.exit(1);
        }
    }
}
