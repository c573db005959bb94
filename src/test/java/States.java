import java.util.Arrays;
import java.util.stream.Collectors;

/** States in which the tests of boundaries make their calls, written as calls with their answers. */
final class States {
    static final String NEW = "";

    /** Something of everything, slot 0 saved, slot 1 not; no pair but (1, BODY_PART) is directly changed. */
    static final String SMALL = """
            addTarget(LIBRARY,3) = 0
            addTarget(GENERATOR,5) = 1
            addTarget(TEST,7) = 2
            addTarget(LIBRARY,11) = 3
            addTarget(TEST,13) = 4
            save(0) = 5
            addDependency(0,1,GENERATED) = 1
            addDependency(3,0,INTERFACE) = 2
            addDependency(2,3,RUN) = 3
            addDependency(4,3,BODY) = 4
            addFile(0,true,10) = 0
            addFile(1,false,11) = 1
            addFile(3,true,12) = 2
            addFile(2,false,13) = 3
            rename(2,14) = 12
            deleteFile(3) = 13
            clearChanges() = 4
            edit(1) = 1
            """;

    /** 20 targets, 10 of them tests, 60 dependencies, 40 files, 5 and 39 deleted, both slots saved. */
    static final String FULL = "save(1) = 0;" + twentyTargets() + sixtyDependencies() + fortyFiles()
            + "save(0) = 20; deleteFile(5) = 5; deleteFile(39) = 39; clearChanges() = 40;";

    static final String TEN_TESTS = targets(0, 10, "TEST", 1);

    private States() {
    }

    /** Targets that get the numbers from first on. */
    static String targets(int first, int count, String kind, int weight) {
        StringBuilder calls = new StringBuilder();
        for (int t = first; t < first + count; t++) {
            calls.append("addTarget(" + kind + "," + weight + ") = " + t + ";");
        }
        return calls.toString();
    }

    /** Target 1 on 0, 2 on 1, and so on: the first dependencies of their object. */
    static String row(int targets, String kind) {
        StringBuilder calls = new StringBuilder();
        for (int t = 1; t < targets; t++) {
            calls.append("addDependency(" + t + "," + (t - 1) + "," + kind + ") = " + t + ";");
        }
        return calls.toString();
    }

    /** Tests of these weights, 0 first, each directly changed by a source of its own. */
    static String changedTests(int... weights) {
        StringBuilder calls = new StringBuilder();
        for (int t = 0; t < weights.length; t++) {
            calls.append("addTarget(TEST," + weights[t] + ") = " + t + ";");
            calls.append("addFile(" + t + ",false," + t + ") = " + t + ";");
        }
        return calls.toString();
    }

    /** The statement with each of the values in place of ?, MIN and MAX among them. */
    static String each(String statement, int... values) {
        return Arrays.stream(values).mapToObj(Integer::toString).map(value -> statement.replace("?", value) + ";")
                .collect(Collectors.joining()) + statement.replace("?", "MIN") + ";" + statement.replace("?", "MAX");
    }

    /** 0 to 9 are libraries (even) and generators (odd), 10 to 19 are tests. */
    static String twentyTargets() {
        StringBuilder calls = new StringBuilder();
        for (int t = 0; t < 20; t++) {
            String kind = t >= 10 ? "TEST" : t % 2 == 0 ? "LIBRARY" : "GENERATOR";
            calls.append("addTarget(" + kind + "," + (t + 1) + ") = " + t + ";");
        }
        return calls.toString();
    }

    /** For twentyTargets: 0 to 9 each on all before it, 10 on 0 to 9, 11 on 0 to 4. */
    static String sixtyDependencies() {
        StringBuilder calls = new StringBuilder();
        int count = 0;
        for (int u = 1; u <= 11; u++) {
            for (int t = 0; t < (u == 11 ? 5 : u); t++) {
                count++;
                calls.append("addDependency(" + u + "," + t + "," + kindFor(u, t) + ") = " + count + ";");
            }
        }
        return calls.toString();
    }

    /** Something of every kind that is allowed. */
    private static String kindFor(int from, int to) {
        if (from >= 10 && to % 3 == 0) {
            return "RUN";
        }
        if (to % 2 == 0) {
            return "BODY";
        }
        return from % 3 == 0 ? "GENERATED" : "INTERFACE";
    }

    /** For twentyTargets: a header and a source in each, the file's number is its name. */
    static String fortyFiles() {
        StringBuilder calls = new StringBuilder();
        for (int f = 0; f < 40; f++) {
            calls.append("addFile(" + f % 20 + "," + (f < 20) + "," + f + ") = " + f + ";");
        }
        return calls.toString();
    }
}
