import java.util.Random;

/**
 * All promises at once: runs of 512 random calls, the same on the class and on the model of the
 * document, whose answers must agree. The seeds are fixed, so that a run that fails can be seen again.
 */
public final class ModelTest {
    private static final int RUNS = 500, CALLS = 512;
    private static final int[] WRONG = {-1, -2, -10, Integer.MIN_VALUE, Integer.MAX_VALUE, 4, 5, 20, 40, 100, 101};

    private final Random random;
    private final ChangeImpact program = new ChangeImpact();
    private final Model model = new Model();
    private final int run;
    private int calls = 0;

    /** How often of 1000 an argument is drawn from all values in place of those that make sense. */
    private final int oddness;

    /** Whether almost all targets are generators, on which a dependency of any kind is allowed. */
    private final boolean generators;

    private ModelTest(int run) {
        this.run = run;
        random = new Random(run);
        oddness = run % 4 == 0 ? 200 : 20;
        generators = run % 3 == 0;
    }

    public static void main(String[] args) {
        for (int run = 1; run <= RUNS; run++) {
            new ModelTest(run).compare();
        }
        Script.end();
    }

    /** First mostly building, then calls of all kinds, then questions alone, after a few changes. */
    private void compare() {
        int targets = run % 2 == 0 ? 22 : 2 + random.nextInt(19);
        int built = targets + random.nextInt(200);
        while (calls < built) {
            if (calls < targets) {
                changeOrAskFiles(0);
            } else {
                changeOrAskFiles(random.nextInt(6) == 0 ? 4 : 2);
            }
        }
        int mixed = built + random.nextInt(200);
        while (calls < mixed) {
            callAny();
        }
        changeOrAskFiles(12);
        for (int edits = random.nextInt(6); edits >= 0; edits--) {
            changeOrAskFiles(4 + random.nextInt(2));
        }
        while (calls < CALLS) {
            askAll();
        }
    }

    private void callAny() {
        int call = random.nextInt(26);
        // Not too often, as both leave little to ask about.
        if ((call == 12 || call == 25) && random.nextInt(3) > 0) {
            call = 5;
        }
        if (call < 13) {
            changeOrAskFiles(call);
        } else {
            askOrSave(call);
        }
    }

    /** A whole chain, a whole rebuild order, or a whole distribution, as far as the calls go. */
    private void askAll() {
        int what = random.nextInt(4);
        int target = target();
        int part = any(2);
        int shards = 1 + any(4);
        int length = what == 0 ? model.chain(target, part, -1) : 20;
        for (int i = -1; i <= length && calls < CALLS; i++) {
            switch (what) {
                case 0 -> due("chain", program.chain(target, part, i), model.chain(target, part, i), target, part, i);
                case 1 -> due("rebuildOrder", program.rebuildOrder(i), model.rebuildOrder(i), i);
                case 2 -> due("shardOf", program.shardOf(i, shards), model.shardOf(i, shards), i, shards);
                default -> askOrSave(13 + random.nextInt(11));
            }
        }
    }

    private int any(int size) {
        if (random.nextInt(1000) < oddness) {
            return WRONG[random.nextInt(WRONG.length)];
        }
        return size <= 0 ? 0 : random.nextInt(size);
    }

    private int kindOfTarget() {
        return generators && random.nextInt(8) > 0 ? 1 : any(3);
    }

    private int target() {
        return any(model.targetCount());
    }

    private int file() {
        return any(run % 5 == 0 ? 40 : 8);
    }

    private int name() {
        return any(run % 2 == 0 ? 12 : 100);
    }

    private int index(int size) {
        return random.nextInt(4) == 0 ? -1 : any(size);
    }

    private int weight() {
        return 1 + any(run % 5 == 0 ? 3 : 100);
    }

    private void due(String method, int got, int want, Object... arguments) {
        calls++;
        Script.due("run " + run + ", call " + calls, method + java.util.Arrays.toString(arguments), got, want);
    }

    private void changeOrAskFiles(int call) {
        int a = 0;
        int b = 0;
        switch (call) {
            case 0 -> due("addTarget", program.addTarget(a = kindOfTarget(), b = weight()), model.addTarget(a, b), a, b);
            case 1 -> due("targetCount", program.targetCount(), model.targetCount());
            case 2 -> {
                a = target();
                b = target();
                // Most pairs in one direction, as a graph of many dependencies has no room for the other.
                boolean turn = a < b && random.nextInt(8) > 0;
                int from = turn ? b : a;
                int to = turn ? a : b;
                int kind = any(4);
                due("addDependency", program.addDependency(from, to, kind), model.addDependency(from, to, kind), from, to, kind);
            }
            case 3 -> due("removeDependency", program.removeDependency(a = target(), b = target()), model.removeDependency(a, b), a, b);
            case 4 -> {
                boolean header = random.nextBoolean();
                due("addFile", program.addFile(a = target(), header, b = name()), model.addFile(a, header, b), a, header, b);
            }
            case 5 -> due("edit", program.edit(a = file()), model.edit(a), a);
            case 6 -> due("rename", program.rename(a = file(), b = name()), model.rename(a, b), a, b);
            case 7 -> due("move", program.move(a = file(), b = target()), model.move(a, b), a, b);
            case 8 -> due("deleteFile", program.deleteFile(a = file()), model.deleteFile(a), a);
            case 9 -> due("targetOf", program.targetOf(a = file()), model.targetOf(a), a);
            case 10 -> due("nameOf", program.nameOf(a = file()), model.nameOf(a), a);
            case 11 -> due("follow", program.follow(a = name()), model.follow(a), a);
            default -> due("clearChanges", program.clearChanges(), model.clearChanges());
        }
    }

    private void askOrSave(int call) {
        int a = 0;
        int b = 0;
        switch (call) {
            case 13 -> due("directlyChanged", program.directlyChanged(a = any(2)), model.directlyChanged(a), a);
            case 14 -> due("changed", program.changed(a = any(2)), model.changed(a), a);
            case 15 -> due("affectedTests", program.affectedTests(), model.affectedTests());
            case 16 -> {
                int index = index(5);
                due("chain", program.chain(a = target(), b = any(2), index), model.chain(a, b, index), a, b, index);
            }
            case 17 -> due("impact", program.impact(a = target(), b = any(2)), model.impact(a, b), a, b);
            case 18 -> due("mostCritical", program.mostCritical(a = any(2)), model.mostCritical(a), a);
            case 19 -> due("rebuildOrder", program.rebuildOrder(a = index(20)), model.rebuildOrder(a), a);
            case 20 -> due("rebuildTime", program.rebuildTime(), model.rebuildTime());
            case 21 -> due("shardOf", program.shardOf(a = target(), b = 1 + any(4)), model.shardOf(a, b), a, b);
            case 22 -> due("shardLoad", program.shardLoad(a = 1 + any(4), b = any(4)), model.shardLoad(a, b), a, b);
            case 23 -> due("bestGreatestLoad", program.bestGreatestLoad(a = 1 + any(4)), model.bestGreatestLoad(a), a);
            case 24 -> due("save", program.save(a = any(2)), model.save(a), a);
            default -> due("restore", program.restore(a = any(2)), model.restore(a), a);
        }
    }
}
