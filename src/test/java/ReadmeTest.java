import java.io.File;
import java.io.IOException;
import java.net.URL;
import java.net.URLClassLoader;
import java.nio.file.Files;
import java.nio.file.Path;
import java.util.ArrayList;
import java.util.List;
import java.util.Set;
import java.util.TreeSet;
import java.util.regex.Matcher;
import java.util.regex.Pattern;
import java.util.stream.Collectors;
import java.util.stream.Stream;
import javax.tools.ToolProvider;

/** What README.md says of the class and of the tests is true, as far as a program can see it. */
public final class ReadmeTest {
    private static final Pattern EXAMPLE = Pattern.compile("(?s)```java\\n(.*?)```");
    private static final Pattern EXAMPLE_LINE = Pattern.compile("(?:int (\\w+) = )?(.*); +// (-?\\d+).*");
    private static final Pattern ERROR = Pattern.compile("([A-Z_]{2,}) if ");

    private final String readme;

    private ReadmeTest(String readme) {
        this.readme = readme;
    }

    public static void main(String[] args) throws IOException, ReflectiveOperationException {
        ReadmeTest test = new ReadmeTest(Files.readString(Path.of("README.md")));
        test.exampleAnswers();
        test.callsAreTheDocuments();
        test.constantsAreTheDocuments();
        test.testsAreThere();
        Script.end();
    }

    /** Each line of the example that has a number in its comment answers that number. */
    private void exampleAnswers() throws IOException, ReflectiveOperationException {
        List<String> lines = find(EXAMPLE).stream().flatMap(String::lines).toList();
        List<Matcher> answering = lines.stream().map(EXAMPLE_LINE::matcher).filter(Matcher::matches).toList();
        List<Integer> answers = run(programOf(lines));
        Script.due("README.md", "lines of the example without an answer", unanswered(lines), "[]");
        Script.due("README.md", "answers of the example", answers.size(), answering.size());
        for (int i = 0; i < answers.size(); i++) {
            Script.due("README.md", answering.get(i).group(2), answers.get(i).toString(), answering.get(i).group(3));
        }
    }

    private static String unanswered(List<String> lines) {
        return lines.stream().filter(line -> line.contains("impact.") && !EXAMPLE_LINE.matcher(line).matches()).toList()
                .toString();
    }

    private static String programOf(List<String> lines) {
        StringBuilder program = new StringBuilder("import java.util.*;\npublic final class ReadmeExample {\n"
                + "public static List<Integer> answers() {\nList<Integer> answers = new ArrayList<>();\n");
        for (String line : lines) {
            Matcher call = EXAMPLE_LINE.matcher(line);
            if (!call.matches()) {
                program.append(line);
            } else if (call.group(1) == null) {
                program.append("answers.add(" + call.group(2) + ");");
            } else {
                program.append(line.replaceAll("//.*", "") + "answers.add(" + call.group(1) + ");");
            }
            program.append("\n");
        }
        return program.append("return answers;\n}\n}\n").toString();
    }

    private static List<Integer> run(String program) throws IOException, ReflectiveOperationException {
        Path place = Files.createTempDirectory("readme");
        try {
            Path source = Files.writeString(place.resolve("ReadmeExample.java"), program);
            int failed = ToolProvider.getSystemJavaCompiler().run(null, null, null, "-d", place.toString(),
                    "-cp", System.getProperty("java.class.path"), source.toString());
            Script.due("README.md", "compiling the example", failed, 0);
            return failed == 0 ? answersOf(place) : List.of();
        } finally {
            for (File file : place.toFile().listFiles()) {
                Files.delete(file.toPath());
            }
            Files.delete(place);
        }
    }

    private static List<Integer> answersOf(Path place) throws IOException, ReflectiveOperationException {
        List<Integer> answers = new ArrayList<>();
        try (URLClassLoader loader = new URLClassLoader(new URL[] {place.toUri().toURL()})) {
            List<?> found = (List<?>) loader.loadClass("ReadmeExample").getMethod("answers").invoke(null);
            found.forEach(answer -> answers.add((Integer) answer));
        }
        return answers;
    }

    /** The table has every promise's method with its parameters, and its errors in their order. */
    private void callsAreTheDocuments() {
        List<String> rows = find(Pattern.compile("(?m)^\\| (`\\w+\\(.*) \\|$")).stream()
                .map(row -> row.replaceAll(" \\| .* \\|", " |").replaceAll("[`, |]+", " ").strip()).toList();
        List<String> want = new ArrayList<>();
        for (int promise = 2; promise <= Document.PROMISES; promise++) {
            String call = Document.signatures().get(promise - 1).replaceAll("\\b(int|boolean) ", "");
            String errors = Document.sentences(promise).stream().map(ERROR::matcher).filter(Matcher::lookingAt)
                    .map(error -> error.group(1)).collect(Collectors.joining(" "));
            want.add((call + " " + errors).replaceAll("[, ]+", " ").strip());
        }
        Script.due("README.md", "the table of calls", rows.toString(), want.toString());
    }

    private void constantsAreTheDocuments() {
        Set<String> got = new TreeSet<>(find(Pattern.compile("`([A-Z_]+ = -?\\d+)`")));
        Set<String> want = new TreeSet<>();
        Document.constants().forEach(line -> want.addAll(List.of(line.split(", "))));
        Script.due("README.md", "the constants", got.toString(), want.toString());
    }

    private void testsAreThere() throws IOException {
        Set<String> got = new TreeSet<>(find(Pattern.compile("`(\\w+Test)`")));
        try (Stream<Path> files = Files.list(Path.of("src/test/java"))) {
            Set<String> want = files.map(file -> file.getFileName().toString()).filter(name -> name.endsWith("Test.java"))
                    .map(name -> name.replace(".java", "")).collect(Collectors.toCollection(TreeSet::new));
            Script.due("README.md", "the tests", got.toString(), want.toString());
        }
    }

    private List<String> find(Pattern pattern) {
        return pattern.matcher(readme).results().map(found -> found.group(1)).toList();
    }
}
