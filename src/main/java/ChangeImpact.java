import java.util.Arrays;

/**
 * A change impact analyzer for a monorepo: it finds the build targets and tests that a set of file
 * changes reaches, keeping interfaces and bodies apart, orders the rebuild, and balances the tests
 * over shards.
 *
 * <p>Errors are the negative constants. A method tests for them in the order in which the document
 * lists them, and changes nothing before it has passed the last one.
 */
public final class ChangeImpact {
    public static final int NO_SUCH_TARGET = -1, NO_SUCH_FILE = -2, BAD_VALUE = -3, SAME_TARGET = -4,
            NOT_ALLOWED = -5, ALREADY = -6, CYCLE = -7, TOO_MANY = -8, NAME_IN_USE = -9, NONE = -10,
            NOT_SAVED = -11;
    public static final int LIBRARY = 0, GENERATOR = 1, TEST = 2;
    public static final int INTERFACE = 0, BODY = 1, GENERATED = 2, RUN = 3;
    public static final int INTERFACE_PART = 0, BODY_PART = 1;

    private static final int MAX_TARGETS = 20, MAX_TESTS = 10, MAX_DEPENDENCIES = 60, MAX_FILES = 40;
    private static final int MAX_WEIGHT = 100, MAX_SHARDS = 4;
    private static final int NAMES = 100, SLOTS = 2;
    private static final int TARGET_KINDS = 3, DEPENDENCY_KINDS = 4, PARTS = 2;
    private static final int PAIRS = PARTS * MAX_TARGETS;

    /** The index that asks for a length in place of an element. */
    private static final int LENGTH = -1;

    // Sets of kinds of dependencies: bit k is set if kind k is in the set.
    private static final int BUILD_KINDS = 1 << INTERFACE | 1 << BODY | 1 << GENERATED;
    private static final int RUNTIME_KINDS = 1 << INTERFACE | 1 << BODY | 1 << RUN;
    private static final int ALL_KINDS = BUILD_KINDS | RUNTIME_KINDS;

    /** How far the body parts lie above the interface parts in a set of pairs. */
    private static final int PART_SHIFT = 32;

    private final State state = new State();

    /** A slot is null until something is saved in it; then its rows are used again. */
    private final State[] saved = new State[SLOTS];

    public ChangeImpact() {
    }

    // ---- targets and dependencies

    public int addTarget(int kind, int weight) {
        Targets targets = state.targets;
        if (!inRange(kind, TARGET_KINDS) || weight < 1 || weight > MAX_WEIGHT) {
            return BAD_VALUE;
        }
        if (targets.count >= MAX_TARGETS || kind == TEST && targets.testCount() >= MAX_TESTS) {
            return TOO_MANY;
        }
        return targets.append(kind, weight);
    }

    public int targetCount() {
        return state.targets.count;
    }

    public int addDependency(int from, int to, int kind) {
        Targets targets = state.targets;
        if (!targets.has(from) || !targets.has(to)) {
            return NO_SUCH_TARGET;
        }
        if (from == to) {
            return SAME_TARGET;
        }
        if (!inRange(kind, DEPENDENCY_KINDS)) {
            return BAD_VALUE;
        }
        if (!targets.allows(from, to, kind)) {
            return NOT_ALLOWED;
        }
        if (targets.kindBetween(from, to) != NONE) {
            return ALREADY;
        }
        if (contains(targets.withAllUsers(setOf(from), ALL_KINDS), to)) {
            return CYCLE;
        }
        if (targets.dependencies >= MAX_DEPENDENCIES) {
            return TOO_MANY;
        }
        targets.connect(from, to, kind);
        return targets.dependencies;
    }

    public int removeDependency(int from, int to) {
        Targets targets = state.targets;
        if (!targets.has(from) || !targets.has(to)) {
            return NO_SUCH_TARGET;
        }
        int kind = targets.kindBetween(from, to);
        if (kind != NONE) {
            targets.disconnect(from, to, kind);
        }
        return kind;
    }

    // ---- files

    public int addFile(int target, boolean header, int name) {
        Files files = state.files;
        if (!state.targets.has(target)) {
            return NO_SUCH_TARGET;
        }
        if (!inRange(name, NAMES)) {
            return BAD_VALUE;
        }
        if (files.isInUse(name)) {
            return NAME_IN_USE;
        }
        if (files.count >= MAX_FILES) {
            return TOO_MANY;
        }
        int file = files.append(target, header, name);
        state.touchBy(file);
        return file;
    }

    public int edit(int file) {
        if (!state.files.has(file)) {
            return NO_SUCH_FILE;
        }
        state.touchBy(file);
        return state.files.target[file];
    }

    public int rename(int file, int name) {
        Files files = state.files;
        if (!files.has(file)) {
            return NO_SUCH_FILE;
        }
        if (!inRange(name, NAMES)) {
            return BAD_VALUE;
        }
        if (files.isInUse(name)) {
            return NAME_IN_USE;
        }
        int previous = files.name[file];
        files.giveName(file, name);
        if (files.header[file]) {
            state.touchBy(file);
        }
        return previous;
    }

    public int move(int file, int target) {
        Files files = state.files;
        if (!files.has(file)) {
            return NO_SUCH_FILE;
        }
        if (!state.targets.has(target)) {
            return NO_SUCH_TARGET;
        }
        int previous = files.target[file];
        if (previous == target) {
            return SAME_TARGET;
        }
        state.touchBy(file);
        files.target[file] = target;
        state.touchBy(file);
        return previous;
    }

    public int deleteFile(int file) {
        Files files = state.files;
        if (!files.has(file)) {
            return NO_SUCH_FILE;
        }
        state.touchBy(file);
        files.exists[file] = false;
        return files.name[file];
    }

    public int targetOf(int file) {
        return state.files.has(file) ? state.files.target[file] : NO_SUCH_FILE;
    }

    public int nameOf(int file) {
        return state.files.has(file) ? state.files.name[file] : NO_SUCH_FILE;
    }

    public int follow(int name) {
        if (!inRange(name, NAMES)) {
            return BAD_VALUE;
        }
        int owner = state.files.lastOwner[name];
        return state.files.has(owner) ? owner : NONE;
    }

    // ---- reach

    public int clearChanges() {
        int pairs = Long.bitCount(state.direct);
        state.direct = 0;
        return pairs;
    }

    public int directlyChanged(int part) {
        return inRange(part, PARTS) ? targetsWith(state.direct, part) : BAD_VALUE;
    }

    public int changed(int part) {
        return inRange(part, PARTS) ? targetsWith(state.targets.reachOf(state.direct), part) : BAD_VALUE;
    }

    public int affectedTests() {
        return state.testsToRun();
    }

    public int chain(int target, int part, int index) {
        if (!state.targets.has(target)) {
            return NO_SUCH_TARGET;
        }
        if (!inRange(part, PARTS)) {
            return BAD_VALUE;
        }
        Chain chain = new Chain(state.targets, state.direct, pairOf(target, part));
        if (index == LENGTH && chain.length > 0) {
            return chain.length;
        }
        return inRange(index, chain.length) ? chain.pairs[index] : NONE;
    }

    public int impact(int target, int part) {
        if (!state.targets.has(target)) {
            return NO_SUCH_TARGET;
        }
        if (!inRange(part, PARTS)) {
            return BAD_VALUE;
        }
        return state.targets.weightRebuiltBy(pairOf(target, part));
    }

    public int mostCritical(int part) {
        if (!inRange(part, PARTS)) {
            return BAD_VALUE;
        }
        int best = NONE;
        int greatest = 0;
        for (int t = 0; t < state.targets.count; t++) {
            int weight = state.targets.weightRebuiltBy(pairOf(t, part));
            if (weight > greatest) {
                best = t;
                greatest = weight;
            }
        }
        return best;
    }

    // ---- rebuild

    public int rebuildOrder(int index) {
        Rebuild rebuild = new Rebuild(state.targets, state.rebuilt());
        if (index == LENGTH) {
            return rebuild.length;
        }
        return inRange(index, rebuild.length) ? rebuild.order[index] : NONE;
    }

    public int rebuildTime() {
        return new Rebuild(state.targets, state.rebuilt()).time();
    }

    // ---- shards

    public int shardOf(int test, int shards) {
        if (!state.targets.has(test)) {
            return NO_SUCH_TARGET;
        }
        if (!isShardCount(shards)) {
            return BAD_VALUE;
        }
        int tests = state.testsToRun();
        return contains(tests, test) ? new Shards(state.targets, tests, shards).given[test] : NONE;
    }

    public int shardLoad(int shards, int shard) {
        if (!isShardCount(shards) || !inRange(shard, shards)) {
            return BAD_VALUE;
        }
        return new Shards(state.targets, state.testsToRun(), shards).load[shard];
    }

    public int bestGreatestLoad(int shards) {
        if (!isShardCount(shards)) {
            return BAD_VALUE;
        }
        return new Shards(state.targets, state.testsToRun(), shards).leastGreatestLoad();
    }

    // ---- saving

    public int save(int slot) {
        if (!inRange(slot, SLOTS)) {
            return BAD_VALUE;
        }
        State kept = saved[slot];
        if (kept == null) {
            kept = new State();
            saved[slot] = kept;
        }
        kept.copyFrom(state);
        return state.targets.count;
    }

    public int restore(int slot) {
        if (!inRange(slot, SLOTS)) {
            return BAD_VALUE;
        }
        State kept = saved[slot];
        if (kept == null) {
            return NOT_SAVED;
        }
        state.copyFrom(kept);
        return state.targets.count;
    }

    // ---- ranges, sets of targets, and sets of pairs

    private static boolean inRange(int value, int size) {
        return value >= 0 && value < size;
    }

    private static boolean isShardCount(int shards) {
        return shards >= 1 && shards <= MAX_SHARDS;
    }

    private static int setOf(int target) {
        return 1 << target;
    }

    private static boolean contains(int targets, int target) {
        return (targets >>> target & 1) != 0;
    }

    /** The target with the smallest number, or NONE. */
    private static int smallestTarget(int targets) {
        for (int t = 0; t < MAX_TARGETS; t++) {
            if (contains(targets, t)) {
                return t;
            }
        }
        return NONE;
    }

    /** The number by which the document calls and orders a pair. */
    private static int pairOf(int target, int part) {
        return PARTS * target + part;
    }

    // A set of pairs holds the interface parts in its low half and the body parts in its high half,
    // and not in the order of the pairs' numbers, so that a set of targets becomes a set of pairs,
    // and back, by one shift.

    private static long pairsWith(int targets, int part) {
        return (long) targets << part * PART_SHIFT;
    }

    private static int targetsWith(long pairs, int part) {
        return (int) (pairs >>> part * PART_SHIFT);
    }

    private static long setOfPair(int pair) {
        return 1L << (pair % PARTS * PART_SHIFT + pair / PARTS);
    }

    private static boolean containsPair(long pairs, int pair) {
        return (pairs & setOfPair(pair)) != 0;
    }

    /** The pair with the smallest number, or NONE. */
    private static int smallestPair(long pairs) {
        for (int pair = 0; pair < PAIRS; pair++) {
            if (containsPair(pairs, pair)) {
                return pair;
            }
        }
        return NONE;
    }

    /** All that a slot keeps. */
    private static final class State {
        final Targets targets = new Targets();
        final Files files = new Files();

        /** The change set, as a set of pairs. */
        long direct;

        void copyFrom(State other) {
            targets.copyFrom(other.targets);
            files.copyFrom(other.files);
            direct = other.direct;
        }

        void touchBy(int file) {
            int part = files.header[file] ? INTERFACE_PART : BODY_PART;
            direct |= pairsWith(setOf(files.target[file]), part);
        }

        int rebuilt() {
            return targetsWith(targets.reachOf(direct), BODY_PART);
        }

        int testsToRun() {
            return targets.withAllUsers(rebuilt(), RUNTIME_KINDS) & targets.ofKind[TEST];
        }
    }

    /** The targets and their dependencies. */
    private static final class Targets {
        int count;
        int dependencies;
        final int[] weight = new int[MAX_TARGETS];

        /** For each kind of targets the set of them. */
        final int[] ofKind = new int[TARGET_KINDS];

        /**
         * For each kind of dependencies and each target the set of the targets that depend on it.
         * Changes spread from a target to its users, so the dependencies are held in that direction.
         */
        final int[][] users = new int[DEPENDENCY_KINDS][MAX_TARGETS];

        void copyFrom(Targets other) {
            count = other.count;
            dependencies = other.dependencies;
            System.arraycopy(other.weight, 0, weight, 0, MAX_TARGETS);
            System.arraycopy(other.ofKind, 0, ofKind, 0, TARGET_KINDS);
            for (int kind = 0; kind < DEPENDENCY_KINDS; kind++) {
                System.arraycopy(other.users[kind], 0, users[kind], 0, MAX_TARGETS);
            }
        }

        boolean has(int target) {
            return inRange(target, count);
        }

        int testCount() {
            return Integer.bitCount(ofKind[TEST]);
        }

        int append(int kind, int itsWeight) {
            int target = count;
            weight[target] = itsWeight;
            ofKind[kind] |= setOf(target);
            count++;
            return target;
        }

        boolean allows(int from, int to, int kind) {
            if (contains(ofKind[TEST], to)) {
                return false;
            }
            if (kind == GENERATED) {
                return contains(ofKind[GENERATOR], to);
            }
            return kind != RUN || contains(ofKind[TEST], from);
        }

        void connect(int from, int to, int kind) {
            users[kind][to] |= setOf(from);
            dependencies++;
        }

        void disconnect(int from, int to, int kind) {
            users[kind][to] &= ~setOf(from);
            dependencies--;
        }

        /** The kind of the dependency, or NONE. */
        int kindBetween(int from, int to) {
            for (int kind = 0; kind < DEPENDENCY_KINDS; kind++) {
                if (contains(users[kind][to], from)) {
                    return kind;
                }
            }
            return NONE;
        }

        int usersOf(int target, int kinds) {
            int found = 0;
            for (int kind = 0; kind < DEPENDENCY_KINDS; kind++) {
                if ((kinds >>> kind & 1) != 0) {
                    found |= users[kind][target];
                }
            }
            return found;
        }

        int usersOfAny(int set, int kinds) {
            int found = 0;
            for (int t = 0; t < MAX_TARGETS; t++) {
                if (contains(set, t)) {
                    found |= usersOf(t, kinds);
                }
            }
            return found;
        }

        /** The set and all targets from which one of the set is reached by dependencies of the kinds. */
        int withAllUsers(int set, int kinds) {
            int found = set;
            int fresh = set;
            // Each round but the last adds a target, so that there can't be more rounds than targets.
            for (int round = 0; round < MAX_TARGETS && fresh != 0; round++) {
                fresh = usersOfAny(fresh, kinds) & ~found;
                found |= fresh;
            }
            return found;
        }

        /** The pairs that follow from a pair by one of the rules of reach. */
        long followersOf(int pair) {
            int target = pair / PARTS;
            if (pair % PARTS == BODY_PART) {
                return pairsWith(users[GENERATED][target], INTERFACE_PART);
            }
            return pairsWith(users[INTERFACE][target], INTERFACE_PART)
                    | pairsWith(users[BODY][target] | setOf(target), BODY_PART);
        }

        long followersOfAny(long pairs) {
            long found = 0;
            for (int pair = 0; pair < PAIRS; pair++) {
                if (containsPair(pairs, pair)) {
                    found |= followersOf(pair);
                }
            }
            return found;
        }

        /** The pairs from which one of the pairs follows. */
        long causesOfAny(long pairs) {
            long found = 0;
            for (int pair = 0; pair < PAIRS; pair++) {
                if ((followersOf(pair) & pairs) != 0) {
                    found |= setOfPair(pair);
                }
            }
            return found;
        }

        long reachOf(long pairs) {
            long found = pairs;
            long fresh = pairs;
            // Each round but the last adds a pair, so that there can't be more rounds than pairs.
            for (int round = 0; round < PAIRS && fresh != 0; round++) {
                fresh = followersOfAny(fresh) & ~found;
                found |= fresh;
            }
            return found;
        }

        int weightRebuiltBy(int pair) {
            int rebuilt = targetsWith(reachOf(setOfPair(pair)), BODY_PART);
            int sum = 0;
            for (int t = 0; t < MAX_TARGETS; t++) {
                if (contains(rebuilt, t)) {
                    sum += weight[t];
                }
            }
            return sum;
        }

        /** The target of the greatest weight in the set, of several the first; NONE if it is empty. */
        int heaviest(int set) {
            int best = NONE;
            int greatest = 0;
            for (int t = 0; t < MAX_TARGETS; t++) {
                if (contains(set, t) && weight[t] > greatest) {
                    best = t;
                    greatest = weight[t];
                }
            }
            return best;
        }
    }

    /** The files, the deleted ones among them, and the owners of names. */
    private static final class Files {
        int count;
        final int[] target = new int[MAX_FILES];
        final int[] name = new int[MAX_FILES];
        final boolean[] header = new boolean[MAX_FILES];
        final boolean[] exists = new boolean[MAX_FILES];

        /** For each name the file that got it last, or NONE. */
        final int[] lastOwner;

        Files() {
            int[] owners = new int[NAMES];
            Arrays.fill(owners, NONE);
            lastOwner = owners;
        }

        void copyFrom(Files other) {
            count = other.count;
            System.arraycopy(other.target, 0, target, 0, MAX_FILES);
            System.arraycopy(other.name, 0, name, 0, MAX_FILES);
            System.arraycopy(other.header, 0, header, 0, MAX_FILES);
            System.arraycopy(other.exists, 0, exists, 0, MAX_FILES);
            System.arraycopy(other.lastOwner, 0, lastOwner, 0, NAMES);
        }

        boolean has(int file) {
            return inRange(file, count) && exists[file];
        }

        /** A file that has the name now is its last owner, as nobody gets a name that is in use. */
        boolean isInUse(int itsName) {
            int owner = lastOwner[itsName];
            return has(owner) && name[owner] == itsName;
        }

        int append(int itsTarget, boolean isHeader, int itsName) {
            int file = count;
            target[file] = itsTarget;
            header[file] = isHeader;
            exists[file] = true;
            count++;
            giveName(file, itsName);
            return file;
        }

        void giveName(int file, int itsName) {
            name[file] = itsName;
            lastOwner[itsName] = file;
        }
    }

    /** The chain of a pair; its length is 0 if the pair is not changed. */
    private static final class Chain {
        final int[] pairs = new int[PAIRS];
        int length;

        /**
         * Layer d holds the pairs from which the goal is d steps away, on one way at least. The layers
         * go back from the goal, as the smallest sequence can then be chosen from its beginning on: the
         * smallest pair of the next layer each time.
         */
        Chain(Targets targets, long direct, int goal) {
            long[] layers = new long[PAIRS];
            layers[0] = setOfPair(goal);
            int last = 0;
            while (last < PAIRS - 1 && layers[last] != 0 && (layers[last] & direct) == 0) {
                layers[last + 1] = targets.causesOfAny(layers[last]);
                last++;
            }
            int next = smallestPair(layers[last] & direct);
            for (int layer = last; layer >= 0 && next != NONE; layer--) {
                pairs[length] = next;
                length++;
                next = layer > 0 ? smallestPair(targets.followersOf(next) & layers[layer - 1]) : NONE;
            }
        }
    }

    /** The rebuilt targets in their order. */
    private static final class Rebuild {
        final Targets targets;
        final int rebuilt;
        final int[] order = new int[MAX_TARGETS];
        int length;

        Rebuild(Targets targets, int rebuilt) {
            this.targets = targets;
            this.rebuilt = rebuilt;
            int unlisted = rebuilt;
            for (int round = 0; round < MAX_TARGETS && unlisted != 0; round++) {
                int next = smallestTarget(unlisted & ~targets.usersOfAny(unlisted, BUILD_KINDS));
                // There is always one, as the dependencies never form a cycle.
                if (next != NONE) {
                    order[length] = next;
                    length++;
                    unlisted &= ~setOf(next);
                }
            }
        }

        int time() {
            int[] start = new int[MAX_TARGETS];
            int end = 0;
            for (int i = 0; i < length; i++) {
                int target = order[i];
                int built = start[target] + targets.weight[target];
                end = Math.max(end, built);
                int waiting = targets.usersOf(target, BUILD_KINDS) & rebuilt;
                for (int u = 0; u < MAX_TARGETS; u++) {
                    if (contains(waiting, u)) {
                        start[u] = Math.max(start[u], built);
                    }
                }
            }
            return end;
        }
    }

    /** The affected tests, given to a number of shards. */
    private static final class Shards {
        final int[] load;

        /** For each of the tests its shard. */
        final int[] given = new int[MAX_TARGETS];

        /** The weights of the tests, in descending order. */
        final int[] weights = new int[MAX_TESTS];
        int tests;

        Shards(Targets targets, int set, int shards) {
            int[] loads = new int[shards];
            int left = set;
            for (int i = 0; i < MAX_TESTS && left != 0; i++) {
                int test = targets.heaviest(left);
                if (targets.has(test)) {
                    int shard = leastLoaded(loads);
                    given[test] = shard;
                    loads[shard] += targets.weight[test];
                    weights[i] = targets.weight[test];
                    tests++;
                    left &= ~setOf(test);
                }
            }
            load = loads;
        }

        int leastGreatestLoad() {
            return improve(weights, tests, 0, new int[load.length], greatest(load));
        }

        /**
         * The smallest greatest load that can be had by giving the tests from an index on to shards
         * that have the loads, if it is below the limit, otherwise the limit.
         */
        private static int improve(int[] weights, int tests, int index, int[] loads, int limit) {
            if (index >= tests || index >= MAX_TESTS) {
                return Math.min(greatest(loads), limit);
            }
            int best = limit;
            for (int shard = 0; shard < loads.length; shard++) {
                int before = loads[shard];
                // Of shards with equal loads one is enough, as the others give the same loads again.
                if (before + weights[index] < best && !standsBefore(loads, shard)) {
                    loads[shard] = before + weights[index];
                    best = improve(weights, tests, index + 1, loads, best);
                    loads[shard] = before;
                }
            }
            return best;
        }

        private static boolean standsBefore(int[] loads, int shard) {
            for (int s = 0; s < shard; s++) {
                if (loads[s] == loads[shard]) {
                    return true;
                }
            }
            return false;
        }

        private static int leastLoaded(int[] loads) {
            int best = 0;
            for (int shard = 1; shard < loads.length; shard++) {
                if (loads[shard] < loads[best]) {
                    best = shard;
                }
            }
            return best;
        }

        private static int greatest(int[] loads) {
            int most = 0;
            for (int shard = 0; shard < loads.length; shard++) {
                most = Math.max(most, loads[shard]);
            }
            return most;
        }
    }
}
