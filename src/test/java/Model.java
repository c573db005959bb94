import java.util.ArrayList;
import java.util.Comparator;
import java.util.HashMap;
import java.util.List;
import java.util.Map;
import java.util.TreeMap;
import java.util.TreeSet;

/**
 * The document once more, written as near to its words as can be and without a thought of speed, with
 * lists and maps in place of bits. ModelTest compares the class with it.
 */
final class Model {
    private static final int NO_SUCH_TARGET = -1, NO_SUCH_FILE = -2, BAD_VALUE = -3, SAME_TARGET = -4,
            NOT_ALLOWED = -5, ALREADY = -6, CYCLE = -7, TOO_MANY = -8, NAME_IN_USE = -9, NONE = -10, NOT_SAVED = -11;
    private static final int GENERATOR = 1, TEST = 2;
    private static final int INTERFACE = 0, BODY = 1, GENERATED = 2, RUN = 3;

    private record Target(int kind, int weight) {
    }

    private record Edge(int from, int to) {
    }

    private record OneFile(int target, boolean header, int name, boolean exists) {
    }

    private record Naming(int file, int name) {
    }

    private record Saved(List<Target> targets, Map<Edge, Integer> edges, List<OneFile> files, List<Naming> namings,
            TreeSet<Integer> direct) {
    }

    private List<Target> targets = new ArrayList<>();
    private Map<Edge, Integer> edges = new HashMap<>();
    private List<OneFile> files = new ArrayList<>();
    private List<Naming> namings = new ArrayList<>();
    private TreeSet<Integer> direct = new TreeSet<>();
    private final Map<Integer, Saved> slots = new HashMap<>();

    int addTarget(int kind, int weight) {
        if (kind < 0 || kind > 2 || weight < 1 || weight > 100) return BAD_VALUE;
        if (targets.size() == 20) return TOO_MANY;
        if (kind == TEST && targets.stream().filter(t -> t.kind == TEST).count() == 10) return TOO_MANY;
        targets.add(new Target(kind, weight));
        return targets.size() - 1;
    }

    int targetCount() {
        return targets.size();
    }

    private boolean isTarget(int t) {
        return 0 <= t && t < targets.size();
    }

    private boolean reaches(int from, int to, List<Integer> kinds) {
        if (from == to) return true;
        for (Map.Entry<Edge, Integer> e : edges.entrySet()) {
            if (e.getKey().from == from && kinds.contains(e.getValue()) && reaches(e.getKey().to, to, kinds)) return true;
        }
        return false;
    }

    int addDependency(int from, int to, int kind) {
        if (!isTarget(from) || !isTarget(to)) return NO_SUCH_TARGET;
        if (from == to) return SAME_TARGET;
        if (kind < 0 || kind > 3) return BAD_VALUE;
        if (targets.get(to).kind == TEST) return NOT_ALLOWED;
        if (kind == GENERATED && targets.get(to).kind != GENERATOR) return NOT_ALLOWED;
        if (kind == RUN && targets.get(from).kind != TEST) return NOT_ALLOWED;
        if (edges.containsKey(new Edge(from, to))) return ALREADY;
        if (reaches(to, from, List.of(INTERFACE, BODY, GENERATED, RUN))) return CYCLE;
        if (edges.size() == 60) return TOO_MANY;
        edges.put(new Edge(from, to), kind);
        return edges.size();
    }

    int removeDependency(int from, int to) {
        if (!isTarget(from) || !isTarget(to)) return NO_SUCH_TARGET;
        Integer kind = edges.remove(new Edge(from, to));
        return kind == null ? NONE : kind;
    }

    private boolean isFile(int f) {
        return 0 <= f && f < files.size() && files.get(f).exists;
    }

    private boolean inUse(int name) {
        return files.stream().anyMatch(f -> f.exists && f.name == name);
    }

    private void touch(int f) {
        direct.add(2 * files.get(f).target + (files.get(f).header ? 0 : 1));
    }

    int addFile(int target, boolean header, int name) {
        if (!isTarget(target)) return NO_SUCH_TARGET;
        if (name < 0 || name > 99) return BAD_VALUE;
        if (inUse(name)) return NAME_IN_USE;
        if (files.size() == 40) return TOO_MANY;
        files.add(new OneFile(target, header, name, true));
        namings.add(new Naming(files.size() - 1, name));
        touch(files.size() - 1);
        return files.size() - 1;
    }

    int edit(int f) {
        if (!isFile(f)) return NO_SUCH_FILE;
        touch(f);
        return files.get(f).target;
    }

    int rename(int f, int name) {
        if (!isFile(f)) return NO_SUCH_FILE;
        if (name < 0 || name > 99) return BAD_VALUE;
        if (inUse(name)) return NAME_IN_USE;
        OneFile old = files.get(f);
        files.set(f, new OneFile(old.target, old.header, name, true));
        namings.add(new Naming(f, name));
        if (old.header) touch(f);
        return old.name;
    }

    int move(int f, int target) {
        if (!isFile(f)) return NO_SUCH_FILE;
        if (!isTarget(target)) return NO_SUCH_TARGET;
        OneFile old = files.get(f);
        if (old.target == target) return SAME_TARGET;
        touch(f);
        files.set(f, new OneFile(target, old.header, old.name, true));
        touch(f);
        return old.target;
    }

    int deleteFile(int f) {
        if (!isFile(f)) return NO_SUCH_FILE;
        OneFile old = files.get(f);
        touch(f);
        files.set(f, new OneFile(old.target, old.header, old.name, false));
        return old.name;
    }

    int targetOf(int f) {
        return isFile(f) ? files.get(f).target : NO_SUCH_FILE;
    }

    int nameOf(int f) {
        return isFile(f) ? files.get(f).name : NO_SUCH_FILE;
    }

    int follow(int name) {
        if (name < 0 || name > 99) return BAD_VALUE;
        for (int f = 0; f < files.size(); f++) {
            if (isFile(f) && files.get(f).name == name) return f;
        }
        int last = NONE;
        for (Naming naming : namings) {
            if (naming.name == name) last = naming.file;
        }
        return last != NONE && isFile(last) ? last : NONE;
    }

    int clearChanges() {
        int size = direct.size();
        direct.clear();
        return size;
    }

    private static int mask(TreeSet<Integer> pairs, int part) {
        int mask = 0;
        for (int pair : pairs) {
            if (pair % 2 == part) mask |= 1 << pair / 2;
        }
        return mask;
    }

    int directlyChanged(int part) {
        return part == 0 || part == 1 ? mask(direct, part) : BAD_VALUE;
    }

    /** Whether the second pair follows from the first by one of the four rules. */
    private boolean follows(int first, int second) {
        int t = first / 2;
        int u = second / 2;
        boolean fromBody = first % 2 == 1;
        boolean toBody = second % 2 == 1;
        if (t == u) return !fromBody && toBody;
        Integer kind = edges.get(new Edge(u, t));
        if (kind == null) return false;
        if (kind == INTERFACE) return !fromBody && !toBody;
        if (kind == BODY) return !fromBody && toBody;
        return kind == GENERATED && fromBody && !toBody;
    }

    private TreeSet<Integer> reach(TreeSet<Integer> from) {
        TreeSet<Integer> all = new TreeSet<>(from);
        boolean grown = true;
        while (grown) {
            grown = false;
            for (int pair = 0; pair < 2 * targets.size(); pair++) {
                for (int cause : new ArrayList<>(all)) {
                    if (follows(cause, pair)) grown |= all.add(pair);
                }
            }
        }
        return all;
    }

    int changed(int part) {
        return part == 0 || part == 1 ? mask(reach(direct), part) : BAD_VALUE;
    }

    private List<Integer> rebuilt() {
        List<Integer> list = new ArrayList<>();
        for (int pair : reach(direct)) {
            if (pair % 2 == 1) list.add(pair / 2);
        }
        return list;
    }

    private List<Integer> affected() {
        List<Integer> rebuilt = rebuilt();
        List<Integer> list = new ArrayList<>();
        for (int t = 0; t < targets.size(); t++) {
            int test = t;
            if (targets.get(t).kind == TEST
                    && rebuilt.stream().anyMatch(r -> reaches(test, r, List.of(INTERFACE, BODY, RUN)))) {
                list.add(t);
            }
        }
        return list;
    }

    int affectedTests() {
        return affected().stream().mapToInt(t -> 1 << t).sum();
    }

    private static int compareLists(List<Integer> a, List<Integer> b) {
        for (int i = 0; i < a.size(); i++) {
            if (!a.get(i).equals(b.get(i))) return Integer.compare(a.get(i), b.get(i));
        }
        return 0;
    }

    /** Forward, length by length, with the smallest chain to each pair of that length. */
    private List<Integer> chainTo(int goal) {
        Map<Integer, List<Integer>> level = new TreeMap<>();
        for (int pair : direct) {
            level.put(pair, List.of(pair));
        }
        for (int length = 1; length <= 40; length++) {
            if (level.containsKey(goal)) return level.get(goal);
            Map<Integer, List<Integer>> next = new TreeMap<>();
            for (List<Integer> path : level.values()) {
                for (int pair = 0; pair < 2 * targets.size(); pair++) {
                    if (follows(path.get(path.size() - 1), pair)) {
                        List<Integer> longer = new ArrayList<>(path);
                        longer.add(pair);
                        next.merge(pair, longer, (a, b) -> compareLists(a, b) <= 0 ? a : b);
                    }
                }
            }
            level = next;
        }
        return List.of();
    }

    int chain(int target, int part, int index) {
        if (!isTarget(target)) return NO_SUCH_TARGET;
        if (part != 0 && part != 1) return BAD_VALUE;
        List<Integer> chain = chainTo(2 * target + part);
        if (chain.isEmpty()) return NONE;
        if (index == -1) return chain.size();
        return 0 <= index && index < chain.size() ? chain.get(index) : NONE;
    }

    int impact(int target, int part) {
        if (!isTarget(target)) return NO_SUCH_TARGET;
        if (part != 0 && part != 1) return BAD_VALUE;
        int sum = 0;
        for (int pair : reach(new TreeSet<>(List.of(2 * target + part)))) {
            if (pair % 2 == 1) sum += targets.get(pair / 2).weight;
        }
        return sum;
    }

    int mostCritical(int part) {
        if (part != 0 && part != 1) return BAD_VALUE;
        if (targets.isEmpty()) return NONE;
        int best = 0;
        for (int t = 1; t < targets.size(); t++) {
            if (impact(t, part) > impact(best, part)) best = t;
        }
        return best;
    }

    private boolean waits(int u, int t) {
        Integer kind = edges.get(new Edge(u, t));
        return kind != null && kind != RUN;
    }

    int rebuildOrder(int index) {
        List<Integer> rebuilt = rebuilt();
        List<Integer> order = new ArrayList<>();
        while (order.size() < rebuilt.size()) {
            int next = rebuilt.stream().filter(u -> !order.contains(u))
                    .filter(u -> rebuilt.stream().allMatch(t -> !waits(u, t) || order.contains(t)))
                    .min(Comparator.naturalOrder()).orElseThrow();
            order.add(next);
        }
        if (index == -1) return order.size();
        return 0 <= index && index < order.size() ? order.get(index) : NONE;
    }

    private int builtAt(int u, List<Integer> rebuilt, Map<Integer, Integer> known) {
        if (known.containsKey(u)) return known.get(u);
        int start = 0;
        for (int t : rebuilt) {
            if (waits(u, t)) start = Math.max(start, builtAt(t, rebuilt, known));
        }
        known.put(u, start + targets.get(u).weight);
        return known.get(u);
    }

    int rebuildTime() {
        List<Integer> rebuilt = rebuilt();
        Map<Integer, Integer> known = new HashMap<>();
        return rebuilt.stream().mapToInt(u -> builtAt(u, rebuilt, known)).max().orElse(0);
    }

    private Map<Integer, Integer> distribution(int shards, int[] loads) {
        List<Integer> tests = affected();
        tests.sort(Comparator.comparingInt((Integer t) -> -targets.get(t).weight).thenComparing(t -> t));
        Map<Integer, Integer> given = new HashMap<>();
        for (int test : tests) {
            int shard = 0;
            for (int s = 0; s < shards; s++) {
                if (loads[s] < loads[shard]) shard = s;
            }
            loads[shard] += targets.get(test).weight;
            given.put(test, shard);
        }
        return given;
    }

    int shardOf(int test, int shards) {
        if (!isTarget(test)) return NO_SUCH_TARGET;
        if (shards < 1 || shards > 4) return BAD_VALUE;
        return distribution(shards, new int[shards]).getOrDefault(test, NONE);
    }

    int shardLoad(int shards, int shard) {
        if (shards < 1 || shards > 4 || shard < 0 || shard >= shards) return BAD_VALUE;
        int[] loads = new int[shards];
        distribution(shards, loads);
        return loads[shard];
    }

    /** Over all subsets of the tests for one shard, with the rest on one shard less. */
    int bestGreatestLoad(int shards) {
        if (shards < 1 || shards > 4) return BAD_VALUE;
        List<Integer> tests = affected();
        int all = (1 << tests.size()) - 1;
        int[] sum = new int[all + 1];
        for (int set = 0; set <= all; set++) {
            for (int i = 0; i < tests.size(); i++) {
                if ((set >> i & 1) != 0) sum[set] += targets.get(tests.get(i)).weight;
            }
        }
        int[] best = sum.clone();
        for (int s = 2; s <= shards; s++) {
            int[] more = best.clone();
            for (int set = 0; set <= all; set++) {
                for (int part = set; part > 0; part = part - 1 & set) {
                    more[set] = Math.min(more[set], Math.max(sum[part], best[set ^ part]));
                }
            }
            best = more;
        }
        return best[all];
    }

    int save(int slot) {
        if (slot != 0 && slot != 1) return BAD_VALUE;
        slots.put(slot, new Saved(List.copyOf(targets), Map.copyOf(edges), List.copyOf(files), List.copyOf(namings),
                new TreeSet<>(direct)));
        return targets.size();
    }

    int restore(int slot) {
        if (slot != 0 && slot != 1) return BAD_VALUE;
        Saved saved = slots.get(slot);
        if (saved == null) return NOT_SAVED;
        targets = new ArrayList<>(saved.targets);
        edges = new HashMap<>(saved.edges);
        files = new ArrayList<>(saved.files);
        namings = new ArrayList<>(saved.namings);
        direct = new TreeSet<>(saved.direct);
        return targets.size();
    }
}
