/** Promises 1 to 5, and what the description says of targets and dependencies. */
final class TargetBoundaries {
    private static final int ALL = Document.DESCRIPTION;

    /** Numbers of no target of SMALL: 2 times 1073741824 and a shift by 32 both go round to a small number. */
    private static final int[] NO_TARGET = {-1, 5, 19, 20, 32, 33, -32, 1073741824};

    private TargetBoundaries() {
    }

    static void test() {
        Sentence.withoutBoundary(2, "Adds a target");
        Sentence.withoutBoundary(4, "Adds a dependency", "from: the target that depends", "to: the target on which it "
                + "depends");
        Sentence.withoutBoundary(5, "Removes a dependency", "from: the target that depends", "to: the target on which it "
                + "depends");
        newObject();
        numbersOfTargets();
        kindsAndWeights();
        tooManyTargets();
        targetCount();
        whatDependenciesThereAre();
        kindsOfDependencies();
        addDependencyAnswers();
        notAllowed();
        alreadyAndCycle();
        sixtyDependencies();
        removeDependency();
        theChangeSetStays();
    }

    private static void newObject() {
        Sentence empty = Sentence.of(1, "Creates an analyzer without targets and files");
        empty.holds("no target", "targetCount() = 0", States.each("impact(?,0) = NO_SUCH_TARGET", -1, 0, 1, 19, 20),
                "mostCritical(0) = NONE; addTarget(LIBRARY,1) = 0");
        for (int f = 0; f < 40; f++) {
            empty.holds("no file", "targetOf(" + f + ") = NO_SUCH_FILE; nameOf(" + f + ") = NO_SUCH_FILE; "
                    + "edit(" + f + ") = NO_SUCH_FILE");
        }
        for (int name = 0; name < 100; name++) {
            empty.holds("no name", "follow(" + name + ") = NONE");
        }
        empty.holds("the first file is 0", "addTarget(LIBRARY,1) = 0; addFile(0,true,0) = 0");
        Sentence.of(1, "The change set is empty, and nothing is saved")
                .holds("the change set", "clearChanges() = 0")
                .holds("the sets", "directlyChanged(0) = 0; directlyChanged(1) = 0; changed(0) = 0; changed(1) = 0; "
                        + "affectedTests() = 0")
                .holds("also with targets", States.twentyTargets(), "changed(0) = 0; changed(1) = 0; clearChanges() = 0")
                .refuses("both slots", States.NEW, "restore(0) = NOT_SAVED; restore(1) = NOT_SAVED");
        ChangeImpact used = new ChangeImpact();
        Script.on(used, "promise 1, another object", States.SMALL);
        Sentence.of(1, "The change set is empty, and nothing is saved").holds("beside an object that was used",
                "clearChanges() = 0; restore(0) = NOT_SAVED; targetCount() = 0; follow(10) = NONE");
    }

    private static void numbersOfTargets() {
        Sentence.of(ALL, "There are up to 20 targets, numbered from 0 in the order in which they were added")
                .holds("0 to 19, each with its own weight", States.twentyTargets(), """
                        targetCount() = 20
                        impact(-1,1) = NO_SUCH_TARGET
                        impact(0,1) = 1
                        impact(1,1) = 2
                        impact(18,1) = 19
                        impact(19,1) = 20
                        impact(20,1) = NO_SUCH_TARGET
                        """)
                .refuses("not one more", States.twentyTargets(), "addTarget(LIBRARY,1) = TOO_MANY");
        Sentence.of(ALL, "they are never removed").holds("whatever else is removed", States.SMALL, """
                removeDependency(0,1) = GENERATED
                removeDependency(3,0) = INTERFACE
                removeDependency(2,3) = RUN
                removeDependency(4,3) = BODY
                deleteFile(0) = 10
                deleteFile(1) = 11
                deleteFile(2) = 14
                clearChanges() = 3
                targetCount() = 5
                impact(0,0) = 3
                impact(4,0) = 13
                addTarget(LIBRARY,1) = 5
                """);
        Sentence.of(2, "Returns the number of the target").holds("from 0 to 19, a refused one takes none", """
                addTarget(LIBRARY,1) = 0
                addTarget(LIBRARY,0) = BAD_VALUE
                addTarget(GENERATOR,1) = 1
                addTarget(3,1) = BAD_VALUE
                addTarget(TEST,1) = 2
                """, States.targets(3, 17, "LIBRARY", 1));
    }

    private static void kindsAndWeights() {
        Sentence.of(ALL, "A target has a kind (LIBRARY, GENERATOR or TEST) and a weight from 1 to 100, which is the time "
                        + "that it takes to build it and, for a test, to run it")
                .holds("1 and 100 to build", "addTarget(LIBRARY,1) = 0; addTarget(LIBRARY,100) = 1; "
                        + "addFile(0,false,0) = 0; rebuildTime() = 1; clearChanges() = 1; addFile(1,false,1) = 1; "
                        + "rebuildTime() = 100")
                .holds("1 and 100 to run", States.changedTests(1, 100), "shardLoad(1,0) = 101; shardLoad(2,0) = 100; "
                        + "shardLoad(2,1) = 1");
        Sentence.of(2, "kind: LIBRARY, GENERATOR or TEST")
                .holds("the first and the last", "addTarget(0,1) = 0; addTarget(1,1) = 1; addTarget(2,1) = 2")
                .holds("a library is none of the others", "addTarget(LIBRARY,1) = 0; addTarget(LIBRARY,1) = 1; "
                        + "addFile(0,true,0) = 0; affectedTests() = 0; addDependency(1,0,GENERATED) = NOT_ALLOWED; "
                        + "addDependency(1,0,RUN) = NOT_ALLOWED; addDependency(1,0,INTERFACE) = 1")
                .holds("nor is a generator", "addTarget(GENERATOR,1) = 0; addTarget(GENERATOR,1) = 1; "
                        + "addFile(0,true,0) = 0; affectedTests() = 0; addDependency(1,0,RUN) = NOT_ALLOWED; "
                        + "addDependency(1,0,GENERATED) = 1")
                .holds("nor is a test", "addTarget(LIBRARY,1) = 0; addTarget(TEST,1) = 1; addFile(1,true,0) = 0; "
                        + "affectedTests() = 2; addDependency(0,1,GENERATED) = NOT_ALLOWED; addDependency(1,0,RUN) = 1")
                .refuses("one below and one above", States.SMALL, "addTarget(-1,1) = BAD_VALUE; "
                        + "addTarget(3,1) = BAD_VALUE");
        Sentence.of(2, "weight: 1 to 100")
                .holds("the least and the most", "addTarget(TEST,1) = 0; addTarget(TEST,100) = 1; impact(0,0) = 1; "
                        + "impact(1,0) = 100")
                .refuses("one below and one above", States.SMALL, "addTarget(LIBRARY,0) = BAD_VALUE; "
                        + "addTarget(LIBRARY,101) = BAD_VALUE");
        Sentence.of(2, "BAD_VALUE if a parameter is out of range")
                .refuses("the kind", States.SMALL, States.each("addTarget(?,50) = BAD_VALUE", -1, -2, 3, 4, 32, 34, 256))
                .refuses("the weight", States.SMALL, States.each("addTarget(TEST,?) = BAD_VALUE", 0, -1, -100, 101, 257,
                        65537))
                .refuses("both", States.NEW, "addTarget(-1,0) = BAD_VALUE; addTarget(3,101) = BAD_VALUE; "
                        + "addTarget(MIN,MAX) = BAD_VALUE");
    }

    private static void tooManyTargets() {
        Sentence.of(ALL, "At most 10 targets are tests")
                .holds("the tenth is one", States.TEN_TESTS, "targetCount() = 10; addFile(9,true,0) = 0; "
                        + "affectedTests() = 512")
                .refuses("the eleventh is none", States.TEN_TESTS, "addTarget(TEST,1) = TOO_MANY")
                .holds("there is room for others", States.TEN_TESTS, "addTarget(TEST,1) = TOO_MANY; "
                        + "addTarget(LIBRARY,1) = 10; addTarget(GENERATOR,1) = 11; addTarget(TEST,1) = TOO_MANY");
        Sentence many = Sentence.of(2, "TOO_MANY if there are 20 targets, or it is a test and there are 10 tests");
        many.holds("the twentieth, a library", States.targets(0, 19, "LIBRARY", 1), "addTarget(LIBRARY,1) = 19; "
                + "addTarget(LIBRARY,1) = TOO_MANY");
        many.holds("the twentieth, the first test", States.targets(0, 19, "GENERATOR", 1), "addTarget(TEST,1) = 19; "
                + "addTarget(TEST,1) = TOO_MANY");
        many.holds("the twentieth, the tenth test", States.targets(0, 10, "LIBRARY", 1), States.targets(10, 9, "TEST", 1),
                "addTarget(TEST,1) = 19; addTarget(TEST,1) = TOO_MANY");
        many.holds("nineteen with ten tests", States.TEN_TESTS, States.targets(10, 9, "LIBRARY", 1),
                "addTarget(TEST,1) = TOO_MANY; targetCount() = 19; addTarget(LIBRARY,1) = 19");
        many.holds("generators are no tests", States.targets(0, 11, "GENERATOR", 1), States.targets(11, 9, "TEST", 1));
        String each = "addTarget(LIBRARY,1) = TOO_MANY; addTarget(GENERATOR,100) = TOO_MANY; addTarget(TEST,50) = TOO_MANY";
        many.refuses("twenty, ten of them tests", States.FULL, each);
        many.refuses("twenty, no tests", States.targets(0, 20, "LIBRARY", 1), each);
        many.refuses("ten tests", States.TEN_TESTS, "addTarget(TEST,1) = TOO_MANY; addTarget(TEST,100) = TOO_MANY");
    }

    private static void targetCount() {
        Sentence.of(3, "Returns the number of targets")
                .leaves("none", States.NEW, "targetCount() = 0")
                .leaves("five", States.SMALL, "targetCount() = 5")
                .leaves("twenty", States.FULL, "targetCount() = 20")
                .holds("each counts, a refused one does not", "addTarget(LIBRARY,1) = 0; targetCount() = 1; "
                        + "addTarget(LIBRARY,0) = BAD_VALUE; targetCount() = 1; addTarget(TEST,1) = 1; "
                        + "targetCount() = 2", States.targets(2, 18, "LIBRARY", 1),
                        "targetCount() = 20; addTarget(LIBRARY,1) = TOO_MANY; targetCount() = 20");
    }

    private static void whatDependenciesThereAre() {
        Sentence.of(ALL, "A target can depend on another target")
                .holds("the first on the last and the last on another", States.targets(0, 20, "LIBRARY", 1),
                        "addDependency(0,19,BODY) = 1; addDependency(19,18,BODY) = 2; addDependency(1,0,BODY) = 3")
                .refuses("not on itself", States.SMALL, "addDependency(0,0,INTERFACE) = SAME_TARGET; "
                        + "addDependency(1,1,BODY) = SAME_TARGET; addDependency(1,1,GENERATED) = SAME_TARGET; "
                        + "addDependency(4,4,RUN) = SAME_TARGET");
        Sentence one = Sentence.of(ALL, "There is at most one dependency from one target to another, and there are at "
                + "most 60 dependencies");
        String three = "addTarget(GENERATOR,1) = 0; addTarget(TEST,1) = 1; addTarget(TEST,1) = 2;";
        for (String kind : new String[] {"INTERFACE", "BODY", "GENERATED", "RUN"}) {
            String before = three + "addDependency(1,0," + kind + ") = 1;";
            one.refuses("one, " + kind, before, "addDependency(1,0,INTERFACE) = ALREADY; "
                    + "addDependency(1,0,BODY) = ALREADY; addDependency(1,0,GENERATED) = ALREADY; "
                    + "addDependency(1,0,RUN) = ALREADY");
            one.holds("of another target", before, "addDependency(2,0," + kind + ") = 2");
            one.holds("removed at once", before, "removeDependency(1,0) = " + kind + "; removeDependency(1,0) = NONE; "
                    + "addDependency(1,0,INTERFACE) = 1");
        }
        one.holds("sixty", States.twentyTargets(), States.sixtyDependencies());
        one.refuses("not one more", States.twentyTargets() + States.sixtyDependencies(),
                "addDependency(12,0,INTERFACE) = TOO_MANY");
    }

    private static void kindsOfDependencies() {
        String two = "addTarget(GENERATOR,1) = 0; addTarget(TEST,1) = 1; addFile(0,true,0) = 0; addFile(0,false,1) = 1; "
                + "clearChanges() = 2;";
        Sentence.of(ALL, "A dependency of target u on target t has one of these kinds")
                .holds("0", two, "addDependency(1,0,0) = 1; removeDependency(1,0) = 0")
                .holds("1", two, "addDependency(1,0,1) = 1; removeDependency(1,0) = 1")
                .holds("2", two, "addDependency(1,0,2) = 1; removeDependency(1,0) = 2")
                .holds("3", two, "addDependency(1,0,3) = 1; removeDependency(1,0) = 3")
                .refuses("no other", two, "addDependency(1,0,-1) = BAD_VALUE; addDependency(1,0,4) = BAD_VALUE");
        Sentence.of(ALL, "INTERFACE: the interface of u uses the interface of t")
                .holds("the interface changes", two, "addDependency(1,0,INTERFACE) = 1; edit(0) = 0; changed(0) = 3; "
                        + "changed(1) = 3")
                .holds("only the body changes", two, "addDependency(1,0,INTERFACE) = 1; edit(1) = 0; changed(0) = 0; "
                        + "changed(1) = 1");
        Sentence.of(ALL, "BODY: the body of u uses the interface of t, but the interface of u does not")
                .holds("the interface changes", two, "addDependency(1,0,BODY) = 1; edit(0) = 0; changed(0) = 1; "
                        + "changed(1) = 3")
                .holds("only the body changes", two, "addDependency(1,0,BODY) = 1; edit(1) = 0; changed(0) = 0; "
                        + "changed(1) = 1");
        Sentence.of(ALL, "GENERATED: files of u are generated by t, which must be a generator")
                .holds("only the body changes", two, "addDependency(1,0,GENERATED) = 1; edit(1) = 0; changed(0) = 2; "
                        + "changed(1) = 3")
                .holds("by a generator", two, "addTarget(GENERATOR,1) = 2; addTarget(LIBRARY,1) = 3; "
                        + "addDependency(1,0,GENERATED) = 1; addDependency(2,0,GENERATED) = 2; "
                        + "addDependency(3,0,GENERATED) = 3")
                .refuses("by no other", States.SMALL, "addDependency(1,0,GENERATED) = NOT_ALLOWED; "
                        + "addDependency(0,2,GENERATED) = NOT_ALLOWED; addDependency(2,0,GENERATED) = NOT_ALLOWED");
        Sentence.of(ALL, "RUN: u, which must be a test, uses t only when it runs")
                .holds("it runs but is not rebuilt", two, "addDependency(1,0,RUN) = 1; edit(0) = 0; edit(1) = 0; "
                        + "changed(0) = 1; changed(1) = 1; affectedTests() = 2")
                .holds("a test", two, "addTarget(LIBRARY,1) = 2; addDependency(1,0,RUN) = 1; addDependency(1,2,RUN) = 2")
                .refuses("no other", States.SMALL, "addDependency(0,1,RUN) = NOT_ALLOWED; "
                        + "addDependency(1,0,RUN) = NOT_ALLOWED; addDependency(3,1,RUN) = NOT_ALLOWED");
    }

    private static void addDependencyAnswers() {
        String four = States.targets(0, 4, "LIBRARY", 1);
        Sentence.of(4, "Returns the number of dependencies").holds("from 1 on, less behind a removed one", four, """
                addDependency(1,0,INTERFACE) = 1
                addDependency(1,0,INTERFACE) = ALREADY
                addDependency(2,0,INTERFACE) = 2
                removeDependency(1,0) = INTERFACE
                removeDependency(1,0) = NONE
                addDependency(3,0,INTERFACE) = 2
                removeDependency(2,0) = INTERFACE
                removeDependency(3,0) = INTERFACE
                addDependency(3,2,INTERFACE) = 1
                """);
        Sentence.of(4, "NO_SUCH_TARGET if one of the targets does not exist")
                .refuses("the first", States.SMALL, States.each("addDependency(?,1,INTERFACE) = NO_SUCH_TARGET", NO_TARGET))
                .refuses("the second", States.SMALL, States.each("addDependency(0,?,INTERFACE) = NO_SUCH_TARGET",
                        NO_TARGET))
                .refuses("both", States.SMALL, "addDependency(5,6,INTERFACE) = NO_SUCH_TARGET; "
                        + "addDependency(-1,5,RUN) = NO_SUCH_TARGET")
                .refuses("behind the twentieth", States.twentyTargets(),
                        "addDependency(20,0,INTERFACE) = NO_SUCH_TARGET; addDependency(0,20,INTERFACE) = NO_SUCH_TARGET")
                .refuses("there is none", States.NEW, "addDependency(0,1,INTERFACE) = NO_SUCH_TARGET; "
                        + "addDependency(0,0,INTERFACE) = NO_SUCH_TARGET")
                .holds("0 and 19 exist", States.twentyTargets(), "addDependency(19,0,INTERFACE) = 1; "
                        + "addDependency(1,0,INTERFACE) = 2");
        Sentence.of(4, "SAME_TARGET if both are the same")
                .refuses("of every kind of target", States.SMALL, "addDependency(0,0,INTERFACE) = SAME_TARGET; "
                        + "addDependency(1,1,INTERFACE) = SAME_TARGET; addDependency(2,2,RUN) = SAME_TARGET; "
                        + "addDependency(4,4,BODY) = SAME_TARGET")
                .refuses("the last", States.twentyTargets(), "addDependency(19,19,INTERFACE) = SAME_TARGET; "
                        + "addDependency(9,9,GENERATED) = SAME_TARGET");
        Sentence.of(4, "kind: INTERFACE, BODY, GENERATED or RUN").holds("0 to 3", "addTarget(GENERATOR,1) = 0",
                States.targets(1, 4, "TEST", 1),
                "addDependency(1,0,0) = 1; addDependency(2,0,1) = 2; addDependency(3,0,2) = 3; addDependency(4,0,3) = 4");
        Sentence.of(4, "BAD_VALUE if the kind is out of range")
                .refuses("one below, one above, and far off", States.SMALL,
                        States.each("addDependency(2,1,?) = BAD_VALUE", -1, 4, 5, 32, 35, 256));
    }

    private static void notAllowed() {
        Sentence sentence = Sentence.of(4, "NOT_ALLOWED if the target to is a test, or the kind is GENERATED and it is "
                + "not a generator, or the kind is RUN and the target from is not a test");
        // Two of each kind: 0 and 1 libraries, 2 and 3 generators, 4 and 5 tests.
        String six = States.targets(0, 2, "LIBRARY", 1) + States.targets(2, 2, "GENERATOR", 1) + States.targets(4, 2,
                "TEST", 1);
        for (int from = 0; from < 6; from += 2) {
            for (int to = 1; to < 6; to += 2) {
                for (int kind = 0; kind < 4; kind++) {
                    boolean generates = kind != ChangeImpact.GENERATED || to == 3;
                    boolean runs = kind != ChangeImpact.RUN || from == 4;
                    boolean allowed = to != 5 && generates && runs;
                    String call = "addDependency(" + from + "," + to + "," + kind + ")";
                    if (allowed) {
                        sentence.holds("allowed", six, call + " = 1",
                                "removeDependency(" + from + "," + to + ") = " + kind);
                    } else {
                        sentence.refuses("not allowed", six, call + " = NOT_ALLOWED");
                    }
                }
            }
        }
        Sentence.of(ALL, "No target depends on a test")
                .refuses("neither a library nor a generator nor a test", six, """
                        addDependency(0,4,INTERFACE) = NOT_ALLOWED
                        addDependency(2,4,BODY) = NOT_ALLOWED
                        addDependency(5,4,RUN) = NOT_ALLOWED
                        addDependency(4,5,INTERFACE) = NOT_ALLOWED
                        addDependency(0,5,GENERATED) = NOT_ALLOWED
                        """)
                .refuses("also on the first and the last target", "addTarget(TEST,1) = 0;" + States.targets(1, 18,
                        "LIBRARY", 1)
                        + "addTarget(TEST,1) = 19;", "addDependency(1,0,INTERFACE) = NOT_ALLOWED; "
                        + "addDependency(1,19,INTERFACE) = NOT_ALLOWED");
    }

    private static void alreadyAndCycle() {
        Sentence.of(4, "ALREADY if there is a dependency from the first to the second target, of any kind")
                .refuses("of the same and of another kind", States.SMALL, """
                        addDependency(0,1,GENERATED) = ALREADY
                        addDependency(0,1,INTERFACE) = ALREADY
                        addDependency(0,1,BODY) = ALREADY
                        addDependency(3,0,INTERFACE) = ALREADY
                        addDependency(3,0,BODY) = ALREADY
                        addDependency(2,3,RUN) = ALREADY
                        addDependency(2,3,INTERFACE) = ALREADY
                        addDependency(4,3,BODY) = ALREADY
                        addDependency(4,3,RUN) = ALREADY
                        """)
                .holds("not over another target", States.SMALL, "addDependency(3,1,BODY) = 5; addDependency(4,0,RUN) = 6")
                .holds("not once it is removed", States.SMALL, "removeDependency(0,1) = GENERATED; "
                        + "addDependency(0,1,BODY) = 4; addDependency(0,1,BODY) = ALREADY");
        Sentence cycle = Sentence.of(4, "CYCLE if there would be a cycle");
        String[] kinds = {"INTERFACE", "BODY", "GENERATED"};
        String three = States.targets(0, 3, "GENERATOR", 1);
        for (String first : kinds) {
            for (String second : kinds) {
                cycle.refuses("of two", three + "addDependency(1,0," + first + ") = 1;",
                        "addDependency(0,1," + second + ") = CYCLE");
                cycle.refuses("of three", three + "addDependency(1,0," + first + ") = 1; "
                        + "addDependency(2,1," + second + ") = 2;",
                        "addDependency(0,2,INTERFACE) = CYCLE; addDependency(0,2,BODY) = CYCLE; "
                        + "addDependency(0,2,GENERATED) = CYCLE");
            }
        }
        String row = States.targets(0, 20, "LIBRARY", 1) + States.row(20, "BODY");
        cycle.refuses("of twenty, nineteen, two", row, "addDependency(0,19,INTERFACE) = CYCLE; "
                + "addDependency(1,19,BODY) = CYCLE; addDependency(18,19,BODY) = CYCLE; addDependency(0,1,BODY) = CYCLE");
        cycle.holds("a second way is none", row, "addDependency(19,0,BODY) = 20; addDependency(19,17,BODY) = 21");
        cycle.holds("nor is what was one before a dependency went", row, "removeDependency(7,6) = BODY; "
                + "addDependency(0,19,BODY) = 19; addDependency(7,6,BODY) = CYCLE; addDependency(6,7,BODY) = 20");
        Sentence.of(ALL, "The dependencies never form a cycle")
                .holds("nor over all kinds but RUN, which none can close", States.targets(0, 3, "GENERATOR", 1), """
                        addTarget(TEST,1) = 3
                        addDependency(0,1,INTERFACE) = 1
                        addDependency(1,2,GENERATED) = 2
                        addDependency(3,0,RUN) = 3
                        addDependency(2,0,BODY) = CYCLE
                        addDependency(2,1,GENERATED) = CYCLE
                        addDependency(1,0,INTERFACE) = CYCLE
                        addDependency(0,3,INTERFACE) = NOT_ALLOWED
                        removeDependency(0,1) = INTERFACE
                        addDependency(2,0,BODY) = 3
                        addDependency(0,1,INTERFACE) = CYCLE
                        """);
    }

    private static void sixtyDependencies() {
        Sentence many = Sentence.of(4, "TOO_MANY if there are 60 dependencies");
        String sixty = States.twentyTargets() + States.sixtyDependencies();
        many.holds("the sixtieth", sixty, "removeDependency(11,4) = BODY; addDependency(19,9,RUN) = 60; "
                + "addDependency(19,8,RUN) = TOO_MANY; removeDependency(19,8) = NONE; removeDependency(19,9) = RUN");
        many.refuses("of every kind", sixty, "addDependency(12,1,INTERFACE) = TOO_MANY; "
                + "addDependency(12,1,BODY) = TOO_MANY; addDependency(12,1,GENERATED) = TOO_MANY; "
                + "addDependency(19,9,RUN) = TOO_MANY");
        many.holds("room again behind a removed one", sixty, "removeDependency(1,0) = BODY; "
                + "addDependency(12,1,RUN) = 60; addDependency(1,0,BODY) = TOO_MANY; removeDependency(12,1) = RUN; "
                + "addDependency(1,0,BODY) = 60");
        many.holds("a refused removal makes no room", sixty, "removeDependency(0,1) = NONE; "
                + "removeDependency(20,0) = NO_SUCH_TARGET; addDependency(12,1,RUN) = TOO_MANY");
    }

    private static void removeDependency() {
        String generator = "addTarget(GENERATOR,1) = 0;" + States.targets(1, 4, "TEST", 1);
        Sentence.of(5, "Returns the kind of the removed dependency")
                .holds("0 to 3", generator, "addDependency(1,0,0) = 1; addDependency(2,0,1) = 2; "
                        + "addDependency(3,0,2) = 3; addDependency(4,0,3) = 4; removeDependency(4,0) = 3; "
                        + "removeDependency(3,0) = 2; removeDependency(2,0) = 1; removeDependency(1,0) = 0")
                .holds("the last kind it had", generator, "addDependency(1,0,BODY) = 1; removeDependency(1,0) = BODY; "
                        + "addDependency(1,0,RUN) = 1; addDependency(1,0,BODY) = ALREADY; removeDependency(1,0) = RUN");
        Sentence.of(5, "NO_SUCH_TARGET if one of the targets does not exist")
                .refuses("the first", States.SMALL, States.each("removeDependency(?,1) = NO_SUCH_TARGET", NO_TARGET))
                .refuses("the second", States.SMALL, States.each("removeDependency(0,?) = NO_SUCH_TARGET", NO_TARGET))
                .refuses("both, also the same", States.SMALL, "removeDependency(5,5) = NO_SUCH_TARGET; "
                        + "removeDependency(-1,20) = NO_SUCH_TARGET")
                .refuses("behind the twentieth", States.FULL, "removeDependency(20,0) = NO_SUCH_TARGET; "
                        + "removeDependency(1,20) = NO_SUCH_TARGET")
                .refuses("there is none", States.NEW, "removeDependency(0,0) = NO_SUCH_TARGET; "
                        + "removeDependency(0,1) = NO_SUCH_TARGET");
        Sentence.of(5, "NONE if there is no dependency from the first to the second target")
                .leaves("none, none in that direction, none but over another", States.SMALL, """
                        removeDependency(1,2) = NONE
                        removeDependency(1,0) = NONE
                        removeDependency(0,3) = NONE
                        removeDependency(3,1) = NONE
                        removeDependency(0,0) = NONE
                        removeDependency(2,4) = NONE
                        """)
                .leaves("none at all", States.twentyTargets(), "removeDependency(0,19) = NONE; "
                        + "removeDependency(19,0) = NONE")
                .holds("removed already", States.SMALL, "removeDependency(0,1) = GENERATED; removeDependency(0,1) = NONE");
    }

    private static void theChangeSetStays() {
        String changed = "addTarget(LIBRARY,1) = 0; addTarget(LIBRARY,1) = 1; addTarget(LIBRARY,1) = 2; "
                + "addFile(0,true,0) = 0; addFile(1,false,1) = 1;";
        String stays = "directlyChanged(0) = 1; directlyChanged(1) = 2;";
        Sentence.of(4, "The change set does not change")
                .holds("though more is changed", changed, stays, "addDependency(2,0,INTERFACE) = 1;", stays,
                        "changed(0) = 5; clearChanges() = 2")
                .holds("also if it is empty", changed, "clearChanges() = 2; addDependency(2,0,INTERFACE) = 1; "
                        + "clearChanges() = 0")
                .holds("also if it is refused", changed, "addDependency(0,0,INTERFACE) = SAME_TARGET;", stays);
        Sentence.of(5, "The change set does not change")
                .holds("though less is changed", changed, "addDependency(2,0,INTERFACE) = 1; changed(0) = 5; "
                        + "removeDependency(2,0) = INTERFACE;",
                        stays, "changed(0) = 1; clearChanges() = 2")
                .holds("also if it is empty", changed, "addDependency(2,0,INTERFACE) = 1; clearChanges() = 2; "
                        + "removeDependency(2,0) = INTERFACE; clearChanges() = 0");
    }
}
