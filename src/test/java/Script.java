import java.lang.reflect.InvocationTargetException;
import java.lang.reflect.Method;
import java.util.HashMap;
import java.util.Map;
import java.util.regex.Matcher;
import java.util.regex.Pattern;

/**
 * Runs calls that are written as in the document's examples, "addTarget(0,10) = 0; edit(1) = 0", and
 * prints every one whose answer is not the one that is due. Arguments and answers are numbers, true,
 * false, or names of the document's constants; from # to the end of the line is a comment.
 */
final class Script {
    private static final Pattern CALL = Pattern.compile("(\\w+)\\(([^)]*)\\) = (-?\\w+)");
    private static final Map<String, Method> METHODS = publicMethods();
    private static int wrong = 0;
    private static int calls = 0;

    private Script() {
    }

    /** Runs the calls on a new object. */
    static void run(String name, String... texts) {
        on(new ChangeImpact(), name, texts);
    }

    /** Runs the calls on an object that other scripts have used. */
    static void on(ChangeImpact object, String name, String... texts) {
        for (String text : texts) {
            for (String statement : text.replaceAll("#[^\\n]*", "").split("[;\\n]")) {
                if (!statement.isBlank()) {
                    runStatement(object, name, statement.strip());
                }
            }
        }
    }

    static void due(String name, String what, long got, long want) {
        calls++;
        if (got != want) {
            wrong++;
            System.out.println(name + ": " + what + " answered " + got + ", due is " + want);
        }
    }

    /** Ends the program with 1 if an answer was not the one that was due. */
    static void end() {
        System.out.println(wrong == 0 ? calls + " answers are as due" : wrong + " of " + calls + " are not as due");
        if (wrong != 0 || calls == 0) {
            System.exit(1);
        }
    }

    private static void runStatement(ChangeImpact object, String name, String statement) {
        Matcher call = CALL.matcher(statement);
        if (!call.matches() || !METHODS.containsKey(call.group(1))) {
            throw new IllegalStateException("not a call: " + statement);
        }
        Method method = METHODS.get(call.group(1));
        String[] words = call.group(2).isBlank() ? new String[0] : call.group(2).split(",");
        Object[] arguments = new Object[words.length];
        for (int i = 0; i < words.length; i++) {
            arguments[i] = value(words[i].strip());
        }
        try {
            due(name, statement, (Integer) method.invoke(object, arguments), (Integer) value(call.group(3)));
        } catch (InvocationTargetException e) {
            wrong++;
            System.out.println(name + ": " + statement + " threw " + e.getCause());
        } catch (IllegalAccessException e) {
            throw new IllegalStateException(e);
        }
    }

    private static Object value(String word) {
        if (word.equals("true") || word.equals("false")) {
            return Boolean.valueOf(word);
        }
        if (word.equals("MIN")) {
            return Integer.MIN_VALUE;
        }
        if (word.equals("MAX")) {
            return Integer.MAX_VALUE;
        }
        if (word.matches("-?\\d+")) {
            return Integer.valueOf(word);
        }
        try {
            return ChangeImpact.class.getField(word).getInt(null);
        } catch (ReflectiveOperationException e) {
            throw new IllegalStateException("not a constant: " + word, e);
        }
    }

    private static Map<String, Method> publicMethods() {
        Map<String, Method> methods = new HashMap<>();
        for (Method method : ChangeImpact.class.getDeclaredMethods()) {
            if (java.lang.reflect.Modifier.isPublic(method.getModifiers())) {
                methods.put(method.getName(), method);
            }
        }
        return methods;
    }
}
