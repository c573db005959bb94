import java.io.IOException;
import java.lang.reflect.Constructor;
import java.lang.reflect.Field;
import java.lang.reflect.Method;
import java.lang.reflect.Modifier;
import java.nio.file.Files;
import java.nio.file.Path;
import java.util.ArrayList;
import java.util.Arrays;
import java.util.List;
import java.util.Set;
import java.util.TreeSet;
import java.util.regex.Matcher;
import java.util.regex.Pattern;
import java.util.stream.Collectors;

/** The public face and its constants, and those rules of LANGUAGE.md that can be seen from outside. */
public final class FaceTest {
    private static final Pattern CONSTANT = Pattern.compile("([A-Z_]+) = (-?\\d+)");
    private static final Pattern METHOD = Pattern.compile("int (\\w+)\\(([^)]*)\\)");
    private static final Set<String> CONSTANTS = constantsIn(Document.face());
    private static final Set<String> METHODS = methodsIn(Document.face());
    private static final Pattern FORBIDDEN = Pattern.compile("\\b(throw|try|catch|finally|synchronized|assert|package|"
            + "protected|native|volatile|transient|\\w+Exact|Object|System\\.(?!arraycopy\\b)|Thread|Random)\\b|->|::|[^\\x00-\\x7f]");

    public static void main(String[] args) throws IOException, IllegalAccessException {
        same("constants", publicConstants(), CONSTANTS);
        same("constants of the description", publicConstants(), constantsIn(String.join(", ", Document.constants())));
        same("methods", publicMethods(), METHODS);
        same("methods of the promises", publicMethods(), methodsIn(String.join("; ", Document.signatures())));
        same("what can be seen but is not in the document", otherVisibleMembers(), Set.of());
        same("private methods with a public name", hiddenNames(), Set.of());
        same("static fields that are no constants", staticState(), Set.of());
        same("forbidden words", forbiddenWords(), Set.of());
        same("calls that throw", callsThatThrow(), Set.of());
        Script.due("class", "public final", ChangeImpact.class.getModifiers(), Modifier.PUBLIC | Modifier.FINAL);
        Script.end();
    }

    /** "NAME=1" for each constant of a text of the document. */
    private static Set<String> constantsIn(String text) {
        return CONSTANT.matcher(text).results().map(m -> m.group(1) + "=" + m.group(2)).collect(Collectors.toSet());
    }

    /** "name(int,boolean)" for each method of a text of the document. */
    private static Set<String> methodsIn(String text) {
        return METHOD.matcher(text).results().map(m -> m.group(1) + "(" + typesOf(m.group(2)) + ")")
                .collect(Collectors.toSet());
    }

    /** "int,boolean" for "int target, boolean header". */
    private static String typesOf(String parameters) {
        return Arrays.stream(parameters.split(", ")).map(p -> p.replaceAll(" .*", "")).collect(Collectors.joining(","));
    }

    private static void same(String what, Set<String> got, Set<String> want) {
        Set<String> more = new TreeSet<>(got);
        more.removeAll(want);
        Set<String> less = new TreeSet<>(want);
        less.removeAll(got);
        Script.due(what, "too many " + more, more.size(), 0);
        Script.due(what, "missing " + less, less.size(), 0);
    }

    private static Set<String> publicConstants() throws IllegalAccessException {
        Set<String> found = new TreeSet<>();
        for (Field field : ChangeImpact.class.getDeclaredFields()) {
            if (field.getModifiers() == (Modifier.PUBLIC | Modifier.STATIC | Modifier.FINAL) && field.getType() == int.class) {
                found.add(field.getName() + "=" + field.getInt(null));
            }
        }
        return found;
    }

    private static Set<String> publicMethods() {
        Set<String> found = new TreeSet<>();
        for (Method method : ChangeImpact.class.getDeclaredMethods()) {
            if (method.getModifiers() == Modifier.PUBLIC && method.getReturnType() == int.class) {
                found.add(method.getName() + Arrays.stream(method.getParameterTypes()).map(Class::getName)
                        .collect(Collectors.joining(",", "(", ")")));
            }
        }
        return found;
    }

    private static Set<String> otherVisibleMembers() {
        Set<String> found = new TreeSet<>();
        Set<String> constants = CONSTANTS.stream().map(c -> c.replaceAll("=.*", "")).collect(Collectors.toSet());
        for (Field field : ChangeImpact.class.getDeclaredFields()) {
            if (!Modifier.isPrivate(field.getModifiers()) && !constants.contains(field.getName())) {
                found.add(field.toString());
            }
        }
        Set<String> methods = METHODS.stream().map(m -> m.replaceAll("\\(.*", "")).collect(Collectors.toSet());
        for (Method method : ChangeImpact.class.getDeclaredMethods()) {
            if (!Modifier.isPrivate(method.getModifiers()) && !methods.contains(method.getName())) {
                found.add(method.toString());
            }
        }
        for (Constructor<?> constructor : ChangeImpact.class.getDeclaredConstructors()) {
            if (constructor.getParameterCount() > 0 || !Modifier.isPublic(constructor.getModifiers())) {
                found.add(constructor.toString());
            }
        }
        for (Class<?> inside : ChangeImpact.class.getDeclaredClasses()) {
            if (Modifier.isPublic(inside.getModifiers()) || !Modifier.isStatic(inside.getModifiers())) {
                found.add(inside.toString());
            }
        }
        return found;
    }

    private static Set<String> hiddenNames() {
        Set<String> open = METHODS.stream().map(m -> m.replaceAll("\\(.*", "")).collect(Collectors.toSet());
        Set<String> found = new TreeSet<>();
        for (Method method : ChangeImpact.class.getDeclaredMethods()) {
            if (Modifier.isPrivate(method.getModifiers()) && open.contains(method.getName())) {
                found.add(method.toString());
            }
        }
        for (Class<?> inside : ChangeImpact.class.getDeclaredClasses()) {
            for (Method method : inside.getDeclaredMethods()) {
                if (open.contains(method.getName())) {
                    found.add(method.toString());
                }
            }
        }
        return found;
    }

    private static Set<String> staticState() {
        Set<String> found = new TreeSet<>();
        List<Class<?>> classes = new ArrayList<>(List.of(ChangeImpact.class.getDeclaredClasses()));
        classes.add(ChangeImpact.class);
        for (Class<?> each : classes) {
            for (Field field : each.getDeclaredFields()) {
                boolean constant = Modifier.isFinal(field.getModifiers()) && field.getType() == int.class;
                if (Modifier.isStatic(field.getModifiers()) && !constant) {
                    found.add(field.toString());
                }
            }
        }
        return found;
    }

    /** Rule 7: also behind the 512th call, where any answer will do, a call may not throw. */
    private static Set<String> callsThatThrow() {
        ChangeImpact object = new ChangeImpact();
        Set<String> found = new TreeSet<>();
        List<String> calls = new ArrayList<>(Sentence.callsOf(States.FULL));
        Looks.all().forEach(calls::addAll);
        for (String call : calls) {
            if (Call.of(call).on(object).startsWith("threw")) {
                found.add(call);
            }
        }
        return found;
    }

    private static Set<String> forbiddenWords() throws IOException {
        String source = Files.readString(Path.of("src/main/java/ChangeImpact.java"));
        String code = source.replaceAll("(?s)/\\*.*?\\*/", "").replaceAll("//[^\\n]*", "");
        Set<String> found = new TreeSet<>();
        Matcher matcher = FORBIDDEN.matcher(code);
        while (matcher.find()) {
            found.add(matcher.group());
        }
        Matcher imports = Pattern.compile("import [^;]*").matcher(code);
        while (imports.find()) {
            if (!imports.group().equals("import java.util.Arrays")) {
                found.add(imports.group());
            }
        }
        return found;
    }
}
