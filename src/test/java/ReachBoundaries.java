/** Promises 15 to 20, and what the description says of reach and of chains. */
final class ReachBoundaries {
    private static final int ALL = Document.DESCRIPTION;
    private static final String NO_TARGET = "NO_SUCH_TARGET if the target does not exist";
    private static final String NO_PART = "BAD_VALUE if there is no such part";

    /** Of a row of twenty, 0 the last of it. */
    private static final int TWENTY = 1048575;

    /** Target 0, a generator with a header 0 and a source 1, and target 1; the change set is empty. */
    private static final String TWO = "addTarget(GENERATOR,1) = 0; addTarget(TEST,1) = 1; addFile(0,true,0) = 0; "
            + "addFile(0,false,1) = 1; addFile(1,true,2) = 2; addFile(1,false,3) = 3; clearChanges() = 4;";

    private ReachBoundaries() {
    }

    static void test() {
        Sentence.withoutBoundary(16, "Returns the set of targets");
        Sentence.withoutBoundary(15, "Returns the set of targets");
        Sentence.withoutBoundary(18, "target: target of the changed pair", "part: part of the changed pair");
        Sentence.withoutBoundary(19, "target: target of the pair", "part: part of the pair", "Returns the sum");
        Sentence.withoutBoundary(20, "Returns the target with the greatest impact");
        parts();
        targetsThatDoNotExist();
        directlyChanged();
        rules();
        smallestSet();
        affectedTests();
        chainIndexes();
        whichChain();
        impact();
        mostCritical();
    }

    private static void parts() {
        int[] none = {-1, -2, 2, 3, 32, 33, 64, 256};
        Sentence.of(ALL, "A part is INTERFACE_PART or BODY_PART")
                .holds("0 and 1", TWO, "edit(0) = 0; directlyChanged(0) = 1; directlyChanged(1) = 0; changed(0) = 1; "
                        + "changed(1) = 1; chain(0,0,0) = 0; chain(0,1,1) = 1; impact(0,0) = 1; impact(0,1) = 1; "
                        + "mostCritical(0) = 0; mostCritical(1) = 0")
                .refuses("neither -1 nor 2", TWO, "directlyChanged(-1) = BAD_VALUE; directlyChanged(2) = BAD_VALUE; "
                        + "changed(-1) = BAD_VALUE; changed(2) = BAD_VALUE; chain(0,-1,0) = BAD_VALUE; "
                        + "chain(0,2,0) = BAD_VALUE; impact(0,-1) = BAD_VALUE; impact(0,2) = BAD_VALUE; "
                        + "mostCritical(-1) = BAD_VALUE; mostCritical(2) = BAD_VALUE");
        Sentence.of(15, NO_PART).refuses("one below, one above, and far off", States.SMALL,
                        States.each("directlyChanged(?) = BAD_VALUE", none))
                .refuses("without targets", States.NEW, "directlyChanged(-1) = BAD_VALUE; directlyChanged(2) = BAD_VALUE");
        Sentence.of(16, NO_PART).refuses("one below, one above, and far off", States.SMALL,
                        States.each("changed(?) = BAD_VALUE", none))
                .refuses("without targets", States.NEW, "changed(-1) = BAD_VALUE; changed(2) = BAD_VALUE");
        Sentence.of(18, NO_PART).refuses("one below, one above, and far off", States.SMALL,
                        States.each("chain(0,?,0) = BAD_VALUE", none))
                .refuses("whatever the index", States.SMALL, States.each("chain(0,2,?) = BAD_VALUE", -1, 0, 40));
        Sentence.of(19, NO_PART).refuses("one below, one above, and far off", States.SMALL,
                States.each("impact(0,?) = BAD_VALUE", none));
        Sentence.of(20, NO_PART).refuses("one below, one above, and far off", States.SMALL,
                        States.each("mostCritical(?) = BAD_VALUE", none))
                .refuses("without targets", States.NEW, States.each("mostCritical(?) = BAD_VALUE", none));
        Sentence.of(15, "part: INTERFACE_PART or BODY_PART").leaves("0 and 1", States.SMALL, "directlyChanged(0) = 0; "
                + "directlyChanged(1) = 2");
        Sentence.of(16, "part: INTERFACE_PART or BODY_PART").leaves("0 and 1", States.SMALL, "changed(0) = 9; "
                + "changed(1) = 27");
        Sentence.of(20, "part: INTERFACE_PART or BODY_PART").leaves("0 and 1", "addTarget(LIBRARY,1) = 0; "
                + "addTarget(LIBRARY,2) = 1; addTarget(LIBRARY,2) = 2; addDependency(1,0,BODY) = 1;",
                "mostCritical(0) = 0; mostCritical(1) = 1");
    }

    private static void targetsThatDoNotExist() {
        int[] none = {-1, 5, 19, 20, 32, 33, -32, 1073741824};
        Sentence.of(18, NO_TARGET)
                .refuses("one below, one above, and far off", States.SMALL, States.each("chain(?,1,0) = NO_SUCH_TARGET",
                        none))
                .refuses("whatever the index", States.SMALL, States.each("chain(5,1,?) = NO_SUCH_TARGET", -1, 0, 40))
                .refuses("there is none", States.NEW, "chain(0,0,0) = NO_SUCH_TARGET; chain(0,1,-1) = NO_SUCH_TARGET")
                .refuses("behind the twentieth", States.FULL, "chain(20,0,0) = NO_SUCH_TARGET; "
                        + "chain(-1,0,0) = NO_SUCH_TARGET")
                .holds("the first and the last exist", States.FULL, "edit(0) = 0; edit(19) = 19; chain(0,0,0) = 0; "
                        + "chain(19,0,0) = 38");
        Sentence.of(19, NO_TARGET)
                .refuses("one below, one above, and far off", States.SMALL, States.each("impact(?,0) = NO_SUCH_TARGET",
                        none))
                .refuses("there is none", States.NEW, "impact(0,0) = NO_SUCH_TARGET; impact(0,1) = NO_SUCH_TARGET")
                .refuses("behind the twentieth", States.FULL, "impact(20,0) = NO_SUCH_TARGET; "
                        + "impact(-1,1) = NO_SUCH_TARGET")
                .holds("the first and the last exist", States.twentyTargets(), "impact(0,0) = 1; impact(19,1) = 20");
    }

    private static void directlyChanged() {
        Sentence.of(15, "Returns the targets of which a part is directly changed")
                .leaves("none", States.NEW, "directlyChanged(0) = 0; directlyChanged(1) = 0")
                .leaves("none, with targets", States.FULL, "directlyChanged(0) = 0; directlyChanged(1) = 0")
                .holds("the first and the last", States.FULL, "edit(0) = 0; edit(19) = 19; edit(38) = 18; "
                        + "directlyChanged(0) = 524289; directlyChanged(1) = 262144")
                .holds("all", States.twentyTargets(), States.fortyFiles(), "directlyChanged(0) = 1048575; "
                        + "directlyChanged(1) = 1048575")
                .holds("not what follows", TWO, "addDependency(1,0,INTERFACE) = 1; edit(0) = 0; changed(0) = 3; "
                        + "changed(1) = 3; directlyChanged(0) = 1; directlyChanged(1) = 0");
        Sentence.of(16, "Returns the targets of which a part is changed")
                .leaves("none", States.NEW, "changed(0) = 0; changed(1) = 0")
                .leaves("none, with targets", States.FULL, "changed(0) = 0; changed(1) = 0")
                .leaves("what follows is not directly changed by asking", States.SMALL, "changed(0) = 9; changed(1) = 27")
                .holds("the last by the first and the first by the last", States.targets(0, 20,
                        "LIBRARY", 1), States.row(20, "INTERFACE"),
                        "addFile(19,true,0) = 0; changed(0) = 524288; changed(1) = 524288; addFile(0,true,1) = 1; "
                        + "changed(0) = 1048575; changed(1) = 1048575");
    }

    private static void rules() {
        Sentence.of(ALL, "If (t, INTERFACE_PART) is changed, then (t, BODY_PART) is changed")
                .holds("directly", TWO, "edit(0) = 0; changed(0) = 1; changed(1) = 1")
                .holds("by another target", TWO, "addDependency(1,0,INTERFACE) = 1; edit(0) = 0; changed(0) = 3; "
                        + "changed(1) = 3")
                .holds("not the other way round", TWO, "edit(1) = 0; changed(0) = 0; changed(1) = 1");
        Sentence.of(ALL, "If u has an INTERFACE dependency on t, and (t, INTERFACE_PART) is changed, then (u, "
                        + "INTERFACE_PART) is changed")
                .holds("the interface", TWO, "addDependency(1,0,INTERFACE) = 1; edit(0) = 0; changed(0) = 3")
                .holds("not by the body", TWO, "addDependency(1,0,INTERFACE) = 1; edit(1) = 0; changed(0) = 0; "
                        + "changed(1) = 1")
                .holds("not the other way round", TWO, "addDependency(1,0,INTERFACE) = 1; edit(2) = 1; changed(0) = 2; "
                        + "changed(1) = 2")
                .holds("over nineteen", States.targets(0, 20, "LIBRARY", 1), States.row(20, "INTERFACE"),
                        "addFile(0,true,0) = 0; changed(0) = " + TWENTY);
        Sentence.of(ALL, "If u has a BODY dependency on t, and (t, INTERFACE_PART) is changed, then (u, BODY_PART) is "
                        + "changed")
                .holds("the body", TWO, "addDependency(1,0,BODY) = 1; edit(0) = 0; changed(0) = 1; changed(1) = 3")
                .holds("not by the body", TWO, "addDependency(1,0,BODY) = 1; edit(1) = 0; changed(0) = 0; changed(1) = 1")
                .holds("not the other way round", TWO, "addDependency(1,0,BODY) = 1; edit(2) = 1; changed(0) = 2; "
                        + "changed(1) = 2")
                .holds("it ends there", States.targets(0, 20, "LIBRARY", 1), States.row(20, "BODY"),
                        "addFile(0,true,0) = 0; changed(0) = 1; changed(1) = 3");
        Sentence.of(ALL, "If u has a GENERATED dependency on t, and (t, BODY_PART) is changed, then (u, INTERFACE_PART) "
                        + "is changed")
                .holds("by the body alone", TWO, "addDependency(1,0,GENERATED) = 1; edit(1) = 0; changed(0) = 2; "
                        + "changed(1) = 3")
                .holds("by the interface, over the body", TWO, "addDependency(1,0,GENERATED) = 1; edit(0) = 0; "
                        + "changed(0) = 3; changed(1) = 3")
                .holds("not the other way round", TWO, "addDependency(1,0,GENERATED) = 1; edit(2) = 1; changed(0) = 2; "
                        + "changed(1) = 2")
                .holds("over nineteen", States.targets(0, 20, "GENERATOR", 1), States.row(20, "GENERATED"),
                        "addFile(0,false,0) = 0; changed(0) = "
                        + (TWENTY - 1) + "; changed(1) = " + TWENTY)
                .holds("over nineteen, from an interface", States.targets(0, 20, "GENERATOR", 1), States.row(20,
                        "GENERATED"),
                        "addFile(0,true,0) = 0; changed(0) = " + TWENTY + "; changed(1) = " + TWENTY);
        Sentence.of(ALL, "A target is rebuilt if (t, BODY_PART) is changed")
                .holds("directly", TWO, "edit(1) = 0; rebuildOrder(-1) = 1; rebuildOrder(0) = 0; rebuildTime() = 1")
                .holds("by its interface", TWO, "edit(0) = 0; rebuildOrder(-1) = 1; rebuildOrder(0) = 0; rebuildTime() = 1")
                .holds("by another target", TWO, "addDependency(1,0,BODY) = 1; edit(0) = 0; rebuildOrder(-1) = 2; "
                        + "rebuildTime() = 2")
                .holds("not otherwise", TWO, "addDependency(1,0,BODY) = 1; edit(1) = 0; rebuildOrder(-1) = 1; "
                        + "rebuildTime() = 1; clearChanges() = 1; rebuildOrder(-1) = 0");
    }

    private static void smallestSet() {
        Sentence.of(ALL, "The changed pairs are the smallest set that contains all directly changed pairs and for which "
                        + "these rules hold")
                .holds("nothing follows from nothing", States.SMALL, "clearChanges() = 1; changed(0) = 0; changed(1) = 0")
                .holds("all directly changed pairs", States.twentyTargets(), States.fortyFiles(), "changed(0) = 1048575; "
                        + "changed(1) = 1048575")
                .holds("the first and the last of them, alone", States.twentyTargets(), "addFile(0,false,0) = 0; "
                        + "changed(0) = 0; changed(1) = 1; clearChanges() = 1; addFile(19,false,1) = 1; changed(0) = 0; "
                        + "changed(1) = 524288; clearChanges() = 1; addFile(19,true,2) = 2; changed(0) = 524288; "
                        + "changed(1) = 524288")
                .holds("no target but them", States.twentyTargets(), "addFile(7,true,0) = 0; changed(0) = 128; "
                        + "changed(1) = 128")
                .holds("by the dependencies of now", States.SMALL, "changed(0) = 9; removeDependency(0,1) = GENERATED; "
                        + "changed(0) = 0; changed(1) = 2; addDependency(0,1,INTERFACE) = 4; changed(0) = 0; "
                        + "changed(1) = 2; edit(0) = 0; changed(0) = 9; changed(1) = 27")
                .holds("RUN is in no rule", TWO, "addDependency(1,0,RUN) = 1; edit(0) = 0; edit(1) = 0; changed(0) = 1; "
                        + "changed(1) = 1");
    }

    private static void affectedTests() {
        Sentence runs = Sentence.of(ALL, "A test runs with all targets that can be reached from it by any number of "
                + "dependencies (also none) of the kinds INTERFACE, BODY and RUN");
        runs.holds("none", "addTarget(TEST,1) = 0; addTarget(TEST,1) = 1; addFile(0,false,0) = 0; affectedTests() = 1");
        for (String kind : new String[] {"INTERFACE", "BODY", "RUN"}) {
            runs.holds("one, " + kind, TWO, "addDependency(1,0," + kind + ") = 1; edit(1) = 0; changed(1) = 1; "
                    + "affectedTests() = 2");
            if (!kind.equals("RUN")) {
                runs.holds("nineteen, " + kind, States.targets(0, 19, "LIBRARY", 1), "addTarget(TEST,1) = 19",
                        States.row(20, kind),
                        "addFile(0,false,0) = 0; changed(1) = 1; affectedTests() = 524288");
            }
        }
        // The body of 0 does not reach the generator 1, from which files of the test 2 come.
        runs.holds("not over GENERATED", "addTarget(LIBRARY,1) = 0; addTarget(GENERATOR,1) = 1; addTarget(TEST,1) = 2; "
                + "addDependency(1,0,BODY) = 1; addDependency(2,1,GENERATED) = 2; addFile(0,false,0) = 0; "
                + "changed(1) = 1; affectedTests() = 0; removeDependency(2,1) = GENERATED; addDependency(2,1,RUN) = 2; "
                + "affectedTests() = 4");
        runs.holds("not from a target to its users", "addTarget(LIBRARY,1) = 0; addTarget(LIBRARY,1) = 1; "
                + "addTarget(TEST,1) = 2; addDependency(1,0,BODY) = 1; addDependency(2,0,BODY) = 2; "
                + "addFile(1,false,0) = 0; affectedTests() = 0");
        String three = "addTarget(LIBRARY,1) = 0; addTarget(LIBRARY,1) = 1; addTarget(TEST,1) = 2; "
                + "addDependency(2,0,RUN) = 1; addDependency(2,1,RUN) = 2; addFile(0,false,0) = 0; "
                + "addFile(1,false,1) = 1; addFile(2,false,2) = 2; clearChanges() = 3;";
        Sentence.of(ALL, "A test is affected if at least one of these targets is rebuilt")
                .holds("none", three, "affectedTests() = 0")
                .holds("the first", three, "edit(0) = 0; affectedTests() = 4")
                .holds("the last", three, "edit(1) = 1; affectedTests() = 4")
                .holds("itself", three, "edit(2) = 2; affectedTests() = 4")
                .holds("all", three, "edit(0) = 0; edit(1) = 1; edit(2) = 2; affectedTests() = 4")
                .holds("another target", three, "addTarget(LIBRARY,1) = 3; addFile(3,true,3) = 3; affectedTests() = 0");
        Sentence.of(17, "Returns the set of affected tests")
                .leaves("no tests", States.NEW, "affectedTests() = 0")
                .leaves("none is affected", States.FULL, "affectedTests() = 0")
                .leaves("two", States.SMALL, "affectedTests() = 20")
                .holds("only tests", States.targets(0, 20, "LIBRARY", 1), "addFile(0,true,0) = 0; "
                        + "addFile(19,true,1) = 1; affectedTests() = 0")
                .holds("ten, as 0 to 9", States.changedTests(1, 1, 1, 1, 1, 1, 1, 1, 1, 1), "affectedTests() = 1023")
                .holds("ten, as 10 to 19", States.twentyTargets(), States.fortyFiles(), "affectedTests() = 1047552");
    }

    private static void chainIndexes() {
        // Pairs 1, 2, 3 of example 2.
        String three = "addTarget(GENERATOR,1) = 0; addTarget(LIBRARY,1) = 1; addDependency(1,0,GENERATED) = 1; "
                + "addFile(0,false,0) = 0;";
        Sentence.of(18, "Returns a pair of the chain of a changed pair").leaves("asking changes nothing", States.SMALL,
                "chain(4,1,0) = 3; chain(4,1,3) = 9; chain(4,1,-1) = 4");
        Sentence.of(18, "index: index in the chain, from 0; or -1 for the number of pairs in the chain")
                .holds("-1, 0 and the last", three, "chain(1,1,-1) = 3; chain(1,1,0) = 1; chain(1,1,2) = 3")
                .leaves("-2 and one behind the last", three, "chain(1,1,-2) = NONE; chain(1,1,3) = NONE")
                .holds("one pair", three, "chain(0,1,-1) = 1; chain(0,1,0) = 1; chain(0,1,1) = NONE; chain(0,1,-2) = NONE");
        Sentence.of(18, "Returns the number of the pair, or the number of pairs")
                .holds("the least number and the greatest", States.FULL, "edit(0) = 0; edit(19) = 19; chain(0,0,0) = 0; "
                        + "chain(0,0,-1) = 1; chain(19,1,-1) = 2; chain(19,1,0) = 38; chain(19,1,1) = 39; "
                        + "chain(0,1,1) = 1");
        // The body of 0 alone: nothing follows from it over these two kinds.
        String bodyOnly = TWO + "edit(1) = 0;";
        Sentence.of(18, "NONE if the pair is not changed, or the chain has no such index")
                .leaves("not changed by a body, INTERFACE", bodyOnly + "addDependency(1,0,INTERFACE) = 1;",
                        "chain(1,0,-1) = NONE; chain(1,0,0) = NONE; chain(1,1,-1) = NONE; chain(0,0,-1) = NONE")
                .leaves("not changed by a body, BODY", bodyOnly + "addDependency(1,0,BODY) = 1;",
                        "chain(1,1,-1) = NONE; chain(1,1,0) = NONE; chain(1,0,0) = NONE")
                .leaves("not changed by a target that depends on it", TWO + "addDependency(1,0,INTERFACE) = 1; "
                        + "edit(2) = 1;",
                        "chain(0,0,-1) = NONE; chain(0,0,0) = NONE; chain(0,1,-1) = NONE")
                .leaves("not changed", States.SMALL, States.each("chain(1,0,?) = NONE", -1, 0, 1))
                .leaves("no pair is changed", States.FULL, "chain(0,0,-1) = NONE; chain(0,0,0) = NONE; "
                        + "chain(19,1,-1) = NONE; chain(19,1,0) = NONE")
                .leaves("no such index", States.SMALL, States.each("chain(4,1,?) = NONE", -2, 4, 5, 39, 40, 41, 64))
                .holds("not changed any more", three, "chain(1,1,-1) = 3; clearChanges() = 1; chain(1,1,-1) = NONE; "
                        + "chain(0,1,0) = NONE");
        // Each of the twenty gives two pairs of the chain.
        String forty = States.targets(0, 20, "GENERATOR", 1) + States.row(20, "GENERATED") + "addFile(0,true,0) = 0;";
        Sentence.of(18, "NONE if the pair is not changed, or the chain has no such index")
                .holds("not changed, at the end of forty pairs", forty, "chain(19,1,39) = 39; chain(19,1,40) = NONE; "
                        + "clearChanges() = 1; chain(19,1,-1) = NONE; chain(19,1,0) = NONE; chain(19,1,39) = NONE");
        Sentence longest = Sentence.of(ALL, "A chain to a changed pair is a sequence of pairs that begins with a "
                + "directly changed pair and ends with that pair, in which each pair after the first follows from the "
                + "pair before it by one of the four rules");
        longest.holds("the shortest: itself", three, "chain(0,1,-1) = 1; chain(0,1,0) = 1");
        longest.holds("all forty pairs", forty, "chain(19,1,-1) = 40; chain(19,1,0) = 0; chain(19,1,1) = 1; "
                + "chain(19,1,2) = 2; chain(19,1,20) = 20; chain(19,1,38) = 38; chain(19,1,39) = 39; "
                + "chain(19,1,40) = NONE; chain(19,0,-1) = 39; chain(19,0,39) = NONE");
        longest.holds("each rule once", "addTarget(LIBRARY,1) = 0; addTarget(LIBRARY,1) = 1; addTarget(GENERATOR,1) = 2; "
                + "addTarget(LIBRARY,1) = 3; addDependency(1,0,INTERFACE) = 1; addDependency(2,1,BODY) = 2; "
                + "addDependency(3,2,GENERATED) = 3; addFile(0,true,0) = 0; chain(3,1,-1) = 5; chain(3,1,0) = 0; "
                + "chain(3,1,1) = 2; chain(3,1,2) = 5; chain(3,1,3) = 6; chain(3,1,4) = 7");
        longest.holds("it does not begin before the pair that is directly changed", forty, "addFile(10,false,1) = 1; "
                + "chain(19,1,-1) = 19; chain(19,1,0) = 21");
        Sentence.of(ALL, "The number of a pair is 2 times the target plus the part")
                .holds("0 and 1, 38 and 39", States.FULL, "edit(0) = 0; edit(20) = 0; edit(19) = 19; chain(0,0,0) = 0; "
                        + "chain(0,1,0) = 1; chain(19,0,0) = 38; chain(19,1,1) = 39");
    }

    private static void whichChain() {
        Sentence.of(ALL, "The chain of a changed pair is the shortest one")
                .holds("though the longer begins with a smaller number", States.targets(0, 4, "LIBRARY", 1),
                        "addDependency(1,0,INTERFACE) = 1; addDependency(3,1,INTERFACE) = 2; "
                        + "addDependency(3,2,INTERFACE) = 3; addFile(0,true,0) = 0; chain(3,0,-1) = 3; chain(3,0,0) = 0; "
                        + "addFile(2,true,1) = 1; chain(3,0,-1) = 2; chain(3,0,0) = 4; chain(3,0,1) = 6; "
                        + "chain(3,0,2) = NONE")
                .holds("directly changed is the shortest", States.targets(0, 2, "LIBRARY", 1),
                        "addDependency(1,0,INTERFACE) = 1; addFile(0,true,0) = 0; chain(1,0,-1) = 2; "
                        + "addFile(1,true,1) = 1; chain(1,0,-1) = 1; chain(1,0,0) = 2; chain(1,1,-1) = 2; "
                        + "addFile(1,false,2) = 2; chain(1,1,-1) = 1")
                .holds("a rule that goes past the interface", States.targets(0, 2, "LIBRARY", 1),
                        "addDependency(1,0,BODY) = 1; addFile(0,true,0) = 0; chain(1,1,-1) = 2; chain(1,1,0) = 0; "
                        + "chain(1,1,1) = 3");
        String diamond = States.targets(0, 5, "GENERATOR", 1);
        Sentence.of(ALL, "if there are several, the one whose sequence of numbers is lexicographically smallest")
                .holds("the first number", diamond, "addDependency(4,0,INTERFACE) = 1; addDependency(4,3,INTERFACE) = 2; "
                        + "addFile(3,true,0) = 0; chain(4,0,0) = 6; addFile(0,true,1) = 1; chain(4,0,-1) = 2; "
                        + "chain(4,0,0) = 0")
                .holds("the first number before the second", diamond, "addDependency(3,0,INTERFACE) = 1; "
                        + "addDependency(2,1,INTERFACE) = 2; addDependency(4,2,INTERFACE) = 3; "
                        + "addDependency(4,3,INTERFACE) = 4; addFile(0,true,0) = 0; addFile(1,true,1) = 1; "
                        + "chain(4,0,-1) = 3; chain(4,0,0) = 0; chain(4,0,1) = 6; chain(4,0,2) = 8")
                .holds("the second number", diamond, "addDependency(3,0,INTERFACE) = 1; "
                        + "addDependency(2,0,INTERFACE) = 2; addDependency(4,3,INTERFACE) = 3; "
                        + "addDependency(4,2,INTERFACE) = 4; addFile(0,true,0) = 0; chain(4,0,-1) = 3; chain(4,0,1) = 4")
                .holds("two parts of one target", States.targets(0, 2, "GENERATOR", 1),
                        "addDependency(1,0,INTERFACE) = 1; addFile(0,true,0) = 0; addFile(0,false,1) = 1; "
                        + "chain(1,0,0) = 0; removeDependency(1,0) = INTERFACE; addDependency(1,0,GENERATED) = 1; "
                        + "chain(1,0,-1) = 2; chain(1,0,0) = 1")
                .holds("a body before an interface of a greater number", States.targets(0, 3, "GENERATOR", 1),
                        "addDependency(2,0,GENERATED) = 1; addDependency(2,1,INTERFACE) = 2; addFile(1,true,0) = 0; "
                        + "addFile(0,false,1) = 1; chain(2,0,-1) = 2; chain(2,0,0) = 1")
                .holds("its own interface or another's", States.targets(0, 3, "LIBRARY", 1),
                        "addDependency(1,0,BODY) = 1; addDependency(1,2,BODY) = 2; addFile(2,true,0) = 0; "
                        + "addFile(1,true,1) = 1; chain(1,1,-1) = 2; chain(1,1,0) = 2; addFile(0,true,2) = 2; "
                        + "chain(1,1,0) = 0");
    }

    private static void impact() {
        Sentence sum = Sentence.of(19, "Returns the sum of the weights of all targets that would be rebuilt if a pair "
                + "were the only directly changed pair");
        sum.leaves("the target alone, 1 and 100", "addTarget(LIBRARY,1) = 0; addTarget(TEST,100) = 1;",
                "impact(0,0) = 1; impact(0,1) = 1; impact(1,0) = 100; impact(1,1) = 100");
        sum.holds("all twenty, 2000", States.targets(0, 20, "LIBRARY", 100), States.row(20, "INTERFACE"),
                "impact(0,0) = 2000; impact(0,1) = 100; impact(19,0) = 100; impact(18,0) = 200");
        sum.holds("a target counts once", States.targets(0, 4, "LIBRARY", 10), "addDependency(1,0,INTERFACE) = 1; "
                + "addDependency(2,0,INTERFACE) = 2; addDependency(3,1,BODY) = 3; addDependency(3,2,INTERFACE) = 4; "
                + "impact(0,0) = 40; impact(2,0) = 20; impact(0,1) = 10");
        sum.holds("a test that only runs does not count", "addTarget(LIBRARY,1) = 0; addTarget(TEST,100) = 1; "
                + "addDependency(1,0,RUN) = 1; impact(0,0) = 1; impact(0,1) = 1");
        Sentence.of(19, "The change set does not matter")
                .leaves("empty", States.SMALL + "clearChanges() = 1;", "impact(0,0) = 27; impact(1,1) = 32; "
                        + "impact(3,1) = 11")
                .leaves("not empty", States.SMALL, "impact(0,0) = 27; impact(1,1) = 32; impact(3,1) = 11")
                .holds("all pairs", States.twentyTargets(), States.fortyFiles(), "impact(0,0) = 1; impact(19,1) = 20; "
                        + "directlyChanged(0) = 1048575; clearChanges() = 40");
    }

    private static void mostCritical() {
        Sentence.of(20, "Returns the target with the smallest number among those with the greatest impact")
                .holds("one target", "addTarget(LIBRARY,1) = 0; mostCritical(0) = 0; mostCritical(1) = 0")
                .holds("all twenty the same", States.targets(0, 20, "LIBRARY", 100), "mostCritical(0) = 0; "
                        + "mostCritical(1) = 0")
                .holds("the last", States.targets(0, 19, "LIBRARY", 99), "addTarget(LIBRARY,100) = 19; "
                        + "mostCritical(0) = 19; mostCritical(1) = 19")
                .holds("the last two the same", States.targets(0, 18, "LIBRARY", 99), "addTarget(LIBRARY,100) = 18; "
                        + "addTarget(TEST,100) = 19; mostCritical(0) = 18; mostCritical(1) = 18")
                .holds("the same by sums of others", "addTarget(LIBRARY,5) = 0; addTarget(LIBRARY,3) = 1; "
                        + "addTarget(LIBRARY,2) = 2; addDependency(2,1,BODY) = 1; mostCritical(0) = 0; "
                        + "mostCritical(1) = 0; addTarget(LIBRARY,1) = 3; addDependency(3,1,BODY) = 2; "
                        + "mostCritical(0) = 1; mostCritical(1) = 0")
                .leaves("whatever is changed", States.SMALL, "mostCritical(0) = 1; mostCritical(1) = 1");
        Sentence.of(20, "NONE if there are no targets")
                .leaves("a new object", States.NEW, "mostCritical(0) = NONE; mostCritical(1) = NONE")
                .holds("with the first one no more", "mostCritical(0) = NONE; addTarget(TEST,1) = 0; mostCritical(0) = 0")
                .holds("none again", "save(0) = 0; addTarget(TEST,1) = 0; restore(0) = 0; mostCritical(0) = NONE; "
                        + "mostCritical(1) = NONE");
    }
}
