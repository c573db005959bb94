import java.util.ArrayList;
import java.util.HashMap;
import java.util.List;
import java.util.Map;

/**
 * All that later calls show of an object's state. An object is good for 512 calls and many of these
 * calls change it, so they come in portions, each for an object of its own.
 */
final class Looks {
    private static final List<List<String>> PORTIONS = portions();

    /** What is seen behind calls that other tests look behind too. */
    private static final Map<String, List<List<String>>> SEEN = new HashMap<>();

    private Looks() {
    }

    /** The calls, portion by portion. */
    static List<List<String>> all() {
        return PORTIONS;
    }

    /** The answers to each portion on a new object on which these calls were made. */
    static List<List<String>> behind(List<String> calls) {
        List<List<String>> answers = new ArrayList<>();
        for (List<String> portion : PORTIONS) {
            ChangeImpact object = new ChangeImpact();
            calls.forEach(call -> Script.answer(object, call));
            answers.add(portion.stream().map(call -> Script.answer(object, call)).toList());
        }
        return answers;
    }

    /** As behind, for calls that are asked for again and again. */
    static List<List<String>> behindOnce(List<String> calls) {
        return SEEN.computeIfAbsent(String.join(";", calls), key -> behind(calls));
    }

    private static List<List<String>> portions() {
        List<List<String>> of = new ArrayList<>();
        for (String first : List.of("targetCount()", "restore(0)", "restore(1)")) {
            for (List<String> looks : List.of(targets(), files(), headers(), reach(), rebuildAndShards(),
                    dependencies(), cyclesAndKinds(), newNumbers(), slots())) {
                List<String> portion = new ArrayList<>(List.of(first));
                portion.addAll(looks);
                of.add(portion);
            }
        }
        return of;
    }

    private static List<String> targets() {
        List<String> looks = new ArrayList<>(List.of("mostCritical(0)", "mostCritical(1)"));
        for (int t = 0; t <= 20; t++) {
            looks.add("impact(" + t + ",0)");
            looks.add("impact(" + t + ",1)");
        }
        return looks;
    }

    private static List<String> files() {
        List<String> looks = new ArrayList<>();
        for (int f = 0; f < 40; f++) {
            looks.add("targetOf(" + f + ")");
            looks.add("nameOf(" + f + ")");
        }
        for (int name = 0; name < 100; name++) {
            looks.add("follow(" + name + ")");
        }
        return looks;
    }

    private static List<String> headers() {
        List<String> looks = new ArrayList<>();
        for (int f = 0; f < 40; f++) {
            looks.addAll(List.of("clearChanges()", "edit(" + f + ")", "directlyChanged(0)", "directlyChanged(1)"));
        }
        return looks;
    }

    private static List<String> reach() {
        List<String> looks = new ArrayList<>(List.of("directlyChanged(0)", "directlyChanged(1)", "changed(0)",
                "changed(1)", "affectedTests()"));
        for (int t = 0; t < 20; t++) {
            for (int index = -1; index < 4; index++) {
                looks.add("chain(" + t + ",0," + index + ")");
                looks.add("chain(" + t + ",1," + index + ")");
            }
        }
        looks.add("clearChanges()");
        return looks;
    }

    private static List<String> rebuildAndShards() {
        List<String> looks = new ArrayList<>(List.of("rebuildTime()"));
        for (int index = -1; index <= 20; index++) {
            looks.add("rebuildOrder(" + index + ")");
        }
        for (int shards = 1; shards <= 4; shards++) {
            looks.add("bestGreatestLoad(" + shards + ")");
            for (int shard = 0; shard < shards; shard++) {
                looks.add("shardLoad(" + shards + "," + shard + ")");
            }
            for (int t = 0; t < 20; t++) {
                looks.add("shardOf(" + t + "," + shards + ")");
            }
        }
        return looks;
    }

    private static List<String> dependencies() {
        return ofTwoTargets("removeDependency(", ")");
    }

    private static List<String> cyclesAndKinds() {
        return ofTwoTargets("addDependency(", ",INTERFACE)");
    }

    private static List<String> ofTwoTargets(String begin, String end) {
        List<String> looks = new ArrayList<>();
        for (int u = 0; u < 20; u++) {
            for (int t = 0; t < 20; t++) {
                if (u != t) {
                    looks.add(begin + u + "," + t + end);
                }
            }
        }
        return looks;
    }

    private static List<String> newNumbers() {
        List<String> looks = new ArrayList<>();
        for (int name = 99; name >= 0; name--) {
            looks.add("addFile(0,true," + name + ")");
        }
        for (int i = 0; i < 11; i++) {
            looks.add("addTarget(TEST,1)");
        }
        for (int i = 0; i < 11; i++) {
            looks.add("addTarget(GENERATOR,1)");
        }
        looks.add("addDependency(0,19,GENERATED)");
        return looks;
    }

    private static List<String> slots() {
        return List.of("restore(1)", "targetCount()", "restore(0)", "targetCount()", "save(0)", "save(1)");
    }
}
