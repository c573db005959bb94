import java.lang.reflect.InvocationTargetException;
import java.lang.reflect.Method;
import java.lang.reflect.Modifier;
import java.util.HashMap;
import java.util.Map;
import java.util.regex.Matcher;
import java.util.regex.Pattern;

/**
 * A call written as in the document's examples, "addTarget(0,10)". Arguments are numbers, true, false,
 * MIN and MAX for the smallest and the greatest int, or names of the document's constants.
 */
final class Call {
    private static final Pattern CALL = Pattern.compile("(\\w+)\\(([^)]*)\\)");
    private static final Map<String, Method> METHODS = publicMethods();

    /** The tests ask the same things of many objects, and reading a text takes longer than calling. */
    private static final Map<String, Call> READ = new HashMap<>();

    private final Method method;
    private final Object[] arguments;

    private Call(Method method, Object[] arguments) {
        this.method = method;
        this.arguments = arguments;
    }

    static Call of(String text) {
        return READ.computeIfAbsent(text, Call::read);
    }

    /** The answer, or what the call threw. */
    String on(ChangeImpact object) {
        try {
            return method.invoke(object, arguments).toString();
        } catch (InvocationTargetException e) {
            return "threw " + e.getCause();
        } catch (IllegalAccessException e) {
            throw new IllegalStateException(e);
        }
    }

    /** The value of a number, of true or false, or of a constant's name. */
    static Object value(String word) {
        if (word.equals("true") || word.equals("false")) {
            return Boolean.valueOf(word);
        }
        if (word.equals("MIN")) {
            return Integer.MIN_VALUE;
        }
        if (word.equals("MAX")) {
            return Integer.MAX_VALUE;
        }
        if (word.matches("-?\\d+")) {
            return Integer.valueOf(word);
        }
        try {
            return ChangeImpact.class.getField(word).getInt(null);
        } catch (ReflectiveOperationException e) {
            throw new IllegalStateException("not a constant: " + word, e);
        }
    }

    private static Call read(String text) {
        Matcher call = CALL.matcher(text);
        if (!call.matches() || !METHODS.containsKey(call.group(1))) {
            throw new IllegalStateException("not a call: " + text);
        }
        String[] words = call.group(2).isBlank() ? new String[0] : call.group(2).split(",");
        Object[] arguments = new Object[words.length];
        for (int i = 0; i < words.length; i++) {
            arguments[i] = value(words[i].strip());
        }
        return new Call(METHODS.get(call.group(1)), arguments);
    }

    private static Map<String, Method> publicMethods() {
        Map<String, Method> methods = new HashMap<>();
        for (Method method : ChangeImpact.class.getDeclaredMethods()) {
            if (Modifier.isPublic(method.getModifiers())) {
                methods.put(method.getName(), method);
            }
        }
        return methods;
    }
}
